/-! the reference's load, put together -/
def upK (A B : Nat → Int32) (k : Nat) : Nat → Int32 := fun j => if 40 ≤ j ∧ j < k then B j else A j
def B00 (B : Nat → Int32) : Nat → Int32 := upd (upd B 40 0) 65 0
theorem B00_v (B : Nat → Int32) : B00 B 40 = 0 ∧ B00 B 65 = 0 ∧ nSg (B00 B) = 0 ∧ nPs (B00 B) = 0 := by
  have e40 : B00 B 40 = 0 := by unfold B00 upd; rw [if_neg (by decide), if_pos rfl]
  have e65 : B00 B 65 = 0 := by unfold B00 upd; rw [if_pos rfl]
  exact ⟨e40, e65, by unfold nSg; rw [e40]; rfl, by unfold nPs; rw [e65]; rfl⟩
theorem load_at0 {w w1 w2 w3 w4 w5 : mH} {a n : Nat} {lt : Nat → Nat} (h : ltR w a lt n) (e1 : w1 = sfi w a 9 0) (e2 : w2 = sfi w1 a 10 (-1)) (e3 : w3 = sfi w2 a 12 0) (e4 : w4 = sai w3 (a + 6) 40 0) (e5 : w5 = sai w4 (a + 6) 65 0) : lS w w5 a lt n 0 (B00 (hai w (a + 6))) := by
  obtain ⟨b1, b2, b3, b4⟩ := B00_v (hai w (a + 6))
  have n5 : a + 5 ≠ a + 6 := by omega
  have g8 : hfi w5 a 8 = nI n := by rw [e5, e_hfi_sai, e4, e_hfi_sai, e3, e_hfi_sfi, up2_k _ _ _ (by decide), e2, e_hfi_sfi, up2_k _ _ _ (by decide), e1, e_hfi_sfi, up2_k _ _ _ (by decide)]; exact h.1
  have g9 : hfi w5 a 9 = nI 0 := by rw [e5, e_hfi_sai, e4, e_hfi_sai, e3, e_hfi_sfi, up2_k _ _ _ (by decide), e2, e_hfi_sfi, up2_k _ _ _ (by decide), e1, e_hfi_sfi, up2_at]; rfl
  have g10 : hfi w5 a 10 = -1 := by rw [e5, e_hfi_sai, e4, e_hfi_sai, e3, e_hfi_sfi, up2_k _ _ _ (by decide), e2, e_hfi_sfi, up2_at]
  have g12 : hfi w5 a 12 = 0 := by rw [e5, e_hfi_sai, e4, e_hfi_sai, e3, e_hfi_sfi, up2_at]
  have g5 : hai w5 (a + 5) = hai w (a + 5) := by rw [e5, e_hai_sai, up2_a _ _ _ n5, e4, e_hai_sai, up2_a _ _ _ n5, e3, e2, e1]; rfl
  have g6 : hai w5 (a + 6) = B00 (hai w (a + 6)) := by rw [e5, e_hai_sai, up2_row, e4, e_hai_sai, up2_row, e3, e2, e1]; rfl
  have ep : (nI 0).toNatClampNeg = 0 := rfl
  refine ⟨?_, ⟨g8, h.2.1, by rw [g5]; exact h.2.2, by rw [g9, ep], by rw [g9, ep]; omega⟩, by unfold rP; rw [g9]; rfl, g10, g6, ⟨by rw [b1, b3]; rfl, by omega, by rw [b2, b4]; rfl, by omega⟩, by rw [g12, b3, b4]; rfl⟩
  rw [e5, e4, e3, e2, e1]
  exact xF_sai (xF_sai (xF_sfi (xF_sfi (xF_sfi xF.rf (by decide)) (by decide)) (by decide)) (by decide)) (by decide)
theorem load_copy {G : mG} {w0 : mH} {a0 : Nat} {Φ : mF} (z : zRef w0 a0) : ∀ j k w, 40 ≤ k → k + j = 78 → xF [] [1] a0 w0 w → hai w (a0 + 1) = upK (hai w0 (a0 + 1)) (hai w0 (a0 + 6)) k →
    (∀ w', xF [] [1] a0 w0 w' → hai w' (a0 + 1) = upK (hai w0 (a0 + 1)) (hai w0 (a0 + 6)) 78 → Φ (.inl (some (.int (hfi w0 a0 12)))) w') → mW G mX11_load 6 0 0 131 [(0, .ref a0), (1, .int (nI k))] [] w Φ := by
  intro j
  induction j with
  | zero =>
    intro k w h40 hk F hA hΦ
    have hk' : k = 78 := by omega
    subst hk'
    have hs := mS2.of F.1
    have lt : Nat → Nat := fun _ => 0
    have n : Nat := 0
    refine gX11_load_131 (lt := lt) (n := n) (c := 0) (a0_1 := a0 + 1) (a0_11 := a0 + 6) ((zRef_s2 hs z).1) ((zRef_s2 hs z).2.1) ((zRef_s2 hs z).2.2.2.2.2.2.1) ((zRef_s2 hs z).2.2.2.2.2.2.2.2.2.2.2.2.2.2.2.2.2.2.2.2.2.2.2.2.2.2.2.1) (fun c1 => absurd (by decide) c1) ((zRef_s2 hs z).2.2.2.2.2.2.2.2.2.2.2.2.2.2.2.2.2.2.2.2.2.2.1) (fun c1 => absurd (by decide) c1) ?_ ?_
    · intro _
      rw [F.fi (by decide)]
      exact hΦ w F hA
    · intro c1
      exact absurd (by decide) c1
  | succ j ih =>
    intro k w h40 hk F hA hΦ
    have hs := mS2.of F.1
    have lt : Nat → Nat := fun _ => 0
    have n : Nat := 0
    have c78 : (78 : Int32) ≤ nI k ↔ 78 ≤ k := m_le (a := 78) (by omega) (by omega)
    refine gX11_load_131 (lt := lt) (n := n) (c := 0) (a0_1 := a0 + 1) (a0_11 := a0 + 6) ((zRef_s2 hs z).1) ((zRef_s2 hs z).2.1) ((zRef_s2 hs z).2.2.2.2.2.2.1) ((zRef_s2 hs z).2.2.2.2.2.2.2.2.2.2.2.2.2.2.2.2.2.2.2.2.2.2.2.2.2.2.2.1) (fun c1 => m_vp (by rw [c78] at c1; omega) (by omega)) ((zRef_s2 hs z).2.2.2.2.2.2.2.2.2.2.2.2.2.2.2.2.2.2.2.2.2.2.1) (fun c1 => m_vp (by rw [c78] at c1; omega) (by omega)) ?_ ?_
    · intro c1
      rw [c78] at c1
      omega
    · intro c1 w1 e
      rw [m_cl (by omega), F.ai (by decide)] at e
      rw [nI_1]
      refine ih (k + 1) w1 (by omega) (by omega) (by rw [e]; exact xF_sai F (by decide)) ?_ hΦ
      rw [e, e_hai_sai, up2_row, hA]
      funext i
      unfold upd upK
      by_cases h : i = k
      · rw [if_pos h, if_pos ⟨by omega, by omega⟩, h]
      · rw [if_neg h]
        by_cases q : 40 ≤ i ∧ i < k
        · rw [if_pos q, if_pos ⟨q.1, by omega⟩]
        · rw [if_neg q, if_neg (by omega)]
/-- what a change leaves: kept is the row ahead of it -/
def hsO (w w' : mH) (a c : Nat) (A' : Nat → Int32) : Prop := hfi w' a 5 = nI (min (c + 1) 6) ∧ (∀ k, k < 78 → rwR w' a 0 k = A' k) ∧ (∀ k, k < 78 → rwR w' a 7 k = rwR w a 7 k) ∧ ∀ i, i < min (c + 1) 6 → ∀ k, k < 78 → rwR w' a (i + 1) k = hPush (fun i => rwR w a (i + 1)) c (rwR w a 0) i k
theorem rwR_eq {w w' : mH} {a r : Nat} (h : hai w' (a + 1) = hai w (a + 1)) : rwR w' a r = rwR w a r := by unfold rwR; rw [h]
theorem hsO_of {w w2 w3 w' : mH} {a c : Nat} {A' : Nat → Int32} (K : kpO w2 w3 a c) (h2 : hai w2 (a + 1) = hai w (a + 1)) (h5 : hfi w' a 5 = hfi w3 a 5) (h0 : ∀ k, k < 78 → hai w' (a + 1) k = A' k) (h1 : ∀ j, 78 ≤ j → hai w' (a + 1) j = hai w3 (a + 1) j) : hsO w w' a c A' := by
  obtain ⟨F, k5, k0, k7, kr⟩ := K
  have R : ∀ r k, 1 ≤ r → k < 78 → rwR w' a r k = rwR w3 a r k := fun r k hr _ => h1 _ (by omega)
  have e0 : ∀ r, rwR w2 a r = rwR w a r := fun r => rwR_eq h2
  refine ⟨by rw [h5]; exact k5, fun k hk => ?_, fun k hk => ?_, fun i hi k hk => ?_⟩
  · show hai w' (a + 1) (78 * 0 + k) = _
    rw [Nat.mul_zero, Nat.zero_add]
    exact h0 k hk
  · rw [R 7 k (by omega) hk, k7 k hk, e0]
  · rw [R (i + 1) k (by omega) hk, kr i hi k hk]
    simp only [e0]
/-- what load leaves -/
def ldO (w w' : mH) (a c : Nat) (r : (Nat → Int32) ⊕ Nat) : Prop := xF [0, 5, 8, 9, 10, 12] [1, 6] a w w' ∧ hfi w' a 8 = 0 ∧ (∀ B, r = .inl B → hfi w' a 0 = 0 ∧ hfi w' a 10 = -1 ∧ hsO w w' a c (fun k => if 40 ≤ k then B k else rwR w a 0 k)) ∧ ∀ q, r = .inr q → hfi w' a 0 = 1 ∧ hfi w' a 10 = nI q ∧ hai w' (a + 1) = hai w (a + 1) ∧ hfi w' a 5 = hfi w a 5
def ldV (r : (Nat → Int32) ⊕ Nat) : Int32 := match r with | .inl B => nI (nSg B + nPs B) | .inr _ => 0
theorem load_end {G : mG} {w0 w : mH} {a0 c : Nat} {r : (Nat → Int32) ⊕ Nat} (z : zRef w0 a0) (h5 : hfi w0 a0 5 = nI c) (hc : c ≤ 6) (h : lE w0 w a0 r) : mW G mX11_load 6 0 0 94 [(0, .ref a0)] [] w (mP (some (.int (ldV r))) (fun w' => ldO w0 w' a0 c r)) := by
  obtain ⟨F, hL, hR⟩ := h
  have h5' : hfi w a0 5 = nI c := (F.fi (by decide)).trans h5
  have hs := mS2.of F.1
  cases r with
  | inl B =>
    obtain ⟨g10, g6, gc, g12⟩ := hL B rfl
    have lt : Nat → Nat := fun _ => 0
    have n : Nat := 0
    refine gX11_load_94 (lt := lt) (n := n) (c := c) ((zRef_s2 hs z).1) ((zRef_s2 hs z)) (fun w1 e1 _ w2 e2 _ => by rw [e2, e_hfi_sfi, up2_k _ _ _ (by decide), e1, e_hfi_sfi, up2_k _ _ _ (by decide)]; exact h5') (fun _ _ _ _ _ _ => hc) (fun w1 e1 _ w2 e2 _ => by rw [e2, e_hfi_sfi, up2_k _ _ _ (by decide), e1, e_hfi_sfi, up2_k _ _ _ (by decide)]; exact h5') (fun _ _ _ _ _ _ => hc) ?_ ?_ ?_ ?_
    · intro w1 e1 c1 w2 e2 c2 w3 q1
      have F2 : xF [0, 5, 8, 9, 10, 12] [1, 6] a0 w0 w2 := by rw [e2, e1]; exact xF_sfi (xF_sfi (F.wide (by decide) (by decide)) (by decide)) (by decide)
      have F3 := F2.tr (q1.1.wide (by decide) (by decide))
      rw [show (40 : Int32) = nI 40 from rfl]
      refine load_copy (zRef_s2 (mS2.of F3.1) z) 38 40 w3 (by omega) rfl xF.rf ?_ ?_
      · funext i
        unfold upK
        rw [if_neg (by omega)]
      · intro w' F4 eR
        have e12 : hfi w3 a0 12 = nI (nSg B + nPs B) := by rw [q1.1.fi (by decide), e2, e_hfi_sfi, up2_k _ _ _ (by decide), e1, e_hfi_sfi, up2_k _ _ _ (by decide)]; exact g12
        have e6 : hai w3 (a0 + 6) = B := by rw [q1.1.ai (by decide), e2, e1]; exact g6
        have er : hai w2 (a0 + 1) = hai w0 (a0 + 1) := by rw [e2, e1]; exact F.ai (by decide)
        rw [e12]
        rw [e6] at eR
        refine mP_of ⟨F3.tr (F4.wide (by decide) (by decide)), ?_, fun B' q => ?_, fun q' q => (by cases q)⟩
        · rw [F4.fi (by decide), q1.1.fi (by decide), e2, e_hfi_sfi, up2_k _ _ _ (by decide), e1, e_hfi_sfi, up2_at]
        · cases q
          refine ⟨?_, ?_, hsO_of q1 er (F4.fi (by decide)) (fun k hk => ?_) (fun j hj => ?_)⟩
          · rw [F4.fi (by decide), q1.1.fi (by decide), e2, e_hfi_sfi, up2_at]
          · rw [F4.fi (by decide), q1.1.fi (by decide), e2, e_hfi_sfi, up2_k _ _ _ (by decide), e1, e_hfi_sfi, up2_k _ _ _ (by decide)]; exact g10
          · rw [eR]
            unfold upK
            by_cases h40 : 40 ≤ k
            · rw [if_pos ⟨h40, hk⟩, if_pos h40]
            · rw [if_neg (by omega), if_neg h40]
              have := q1.2.2.1 k hk
              unfold rwR at this
              rw [Nat.mul_zero, Nat.zero_add, er] at this
              rw [this]
              unfold rwR
              rw [Nat.mul_zero, Nat.zero_add]
          · rw [eR]
            unfold upK
            rw [if_neg (by omega)]
    · intro w1 e1 c1 w2 e2 c2
      rw [e2, e_hfi_sfi, up2_at] at c2
      exact absurd rfl c2
    · intro w1 e1 c1
      rw [e1, e_hfi_sfi, up2_k _ _ _ (by decide), g10] at c1
      exact absurd (by decide) c1
    · intro w1 e1 c1
      rw [e1, e_hfi_sfi, up2_k _ _ _ (by decide), g10] at c1
      exact absurd (by decide) c1
  | inr q =>
    obtain ⟨g10, gq⟩ := hR q rfl
    have lt : Nat → Nat := fun _ => 0
    have n : Nat := 0
    refine gX11_load_94 (lt := lt) (n := n) (c := c) ((zRef_s2 hs z).1) ((zRef_s2 hs z)) (fun w1 e1 _ w2 e2 _ => by rw [e2, e_hfi_sfi, up2_k _ _ _ (by decide), e1, e_hfi_sfi, up2_k _ _ _ (by decide)]; exact h5') (fun _ _ _ _ _ _ => hc) (fun w1 e1 _ w2 e2 _ => by rw [e2, e_hfi_sfi, up2_k _ _ _ (by decide), e1, e_hfi_sfi, up2_k _ _ _ (by decide)]; exact h5') (fun _ _ _ _ _ _ => hc) ?_ ?_ ?_ ?_
    · intro w1 e1 c1
      rw [e1, e_hfi_sfi, up2_k _ _ _ (by decide), g10] at c1
      exact absurd c1 (m_0le (by omega))
    · intro w1 e1 c1
      rw [e1, e_hfi_sfi, up2_k _ _ _ (by decide), g10] at c1
      exact absurd c1 (m_0le (by omega))
    · intro w1 e1 c1 w4 e3 c3
      rw [e3, e_hfi_sfi, up2_at] at c3
      exact absurd c3 (by decide)
    · intro w1 e1 c1 w4 e3 c3
      refine mP_of ⟨by rw [e3, e1]; exact xF_sfi (xF_sfi (F.wide (by decide) (by decide)) (by decide)) (by decide), ?_, fun B' q => (by cases q), fun q' hq => ?_⟩
      · rw [e3, e_hfi_sfi, up2_k _ _ _ (by decide), e1, e_hfi_sfi, up2_at]
      · cases hq
        refine ⟨by rw [e3, e_hfi_sfi, up2_at], ?_, ?_, ?_⟩
        · rw [e3, e_hfi_sfi, up2_k _ _ _ (by decide), e1, e_hfi_sfi, up2_k _ _ _ (by decide)]; exact g10
        · rw [e3, e1]; exact F.ai (by decide)
        · rw [e3, e_hfi_sfi, up2_k _ _ _ (by decide), e1, e_hfi_sfi, up2_k _ _ _ (by decide)]; exact F.fi (by decide)
theorem rX11_load {G : mG} {w : mH} {a0 c n : Nat} {lt : Nat → Nat} (z : zRef w a0) (h5 : hfi w a0 5 = nI c) (hc : c ≤ 6) (h : ltR w a0 lt n) : mC G mX11_load 6 0 0 [.ref a0] w (mP (some (.int (ldV (pTxt lt n 50 0 (B00 (hai w (a0 + 6))))))) (fun w' => ldO w w' a0 c (pTxt lt n 50 0 (B00 (hai w (a0 + 6)))))) := by
  refine mC_of (by decide +kernel) rfl (Nat.le_of_ble_eq_true rfl) rfl ?_
  refine gX11_load_0 (lt := lt) (n := n) (c := 0) (a0_11 := a0 + 6) z.1 z.2.2.2.2.2.2.1 z.2.2.2.2.2.2.2.2.2.2.2.2.2.2.2.2.2.2.2.2.2.2.2.2.2.2.2.1 (by intros; unfold vp_in; decide) (by intros; unfold vp_in; decide) z (by intro w1 e1 w2 e2 w3 e3 w4 e4 w5 e5; have L := load_at0 h e1 e2 e3 e4 e5; exact L.2.1) (by intro w1 e1 w2 e2 w3 e3 w4 e4 w5 e5; have L := load_at0 h e1 e2 e3 e4 e5; rw [L.2.2.1]; exact Nat.zero_le _) (by intro w1 e1 w2 e2 w3 e3 w4 e4 w5 e5; have L := load_at0 h e1 e2 e3 e4 e5; exact L.2.2.2.1) (by intro w1 e1 w2 e2 w3 e3 w4 e4 w5 e5; have L := load_at0 h e1 e2 e3 e4 e5; rw [L.2.2.2.2.1]; exact L.2.2.2.2.2.1) ?_
  intro w1 e1 w2 e2 w3 e3 w4 e4 w5 e5 w6 q1
  have L := load_at0 h e1 e2 e3 e4 e5
  have hn50 := h.2.1
  rw [L.2.2.1, L.2.2.2.2.1] at q1
  obtain ⟨Q1, ⟨p', Q2, Q2'⟩, Q3, Q4⟩ := q1
  have F6 : xF [9, 10, 12] [6] a0 w w6 := L.1.tr Q1
  rw [pTxt_s]
  cases ep : pPart lt n 0 (B00 (hai w (a0 + 6))) with
  | inr q =>
    have e10 := Q4 q ep
    have qb := pPart_r (Nat.zero_le _) ep
    have c0 : (0 : Int32) ≤ hfi w6 a0 10 := by rw [e10]; exact nI_pos' (by omega)
    have Z2 := zRef_s2 (mS2.of F6.1) z
    refine gX11_load_35 (lt := lt) (n := n) (c := 0) Z2.1 Z2 (fun d => absurd c0 d) (fun d => absurd c0 d) (fun d => absurd c0 d) (fun d => absurd c0 d) (fun d => absurd c0 d) (fun _ => ?_) (fun d => absurd c0 d) (fun d => absurd c0 d)
    refine gX11_load_68 (lt := lt) (n := n) (c := 0) Z2.1 (fun _ => ?_) (fun d => absurd c0 d) (fun d => absurd c0 d)
    exact load_end z h5 hc ⟨F6, fun B' q => (by cases q), fun q' hq => (by cases hq; exact ⟨e10, by omega⟩)⟩
  | inl x =>
    obtain ⟨R1, R2, R3, R4⟩ := Q3 x ep
    have xb := pPart_le (Nat.zero_le _) ep
    have xc := pPart_c L.2.2.2.2.2.1 ep
    refine load_loop z 49 x.1 x.2 w6 (by omega) xb ⟨F6, rS_at L.2.1 (Q1.ai (by decide)) (Q1.fi (by decide)) R1 (by omega), rP_v R1 (by omega), R2, R3, xc.1, ?_⟩ (fun w' hE => load_end z h5 hc hE)
    rw [R4, L.2.2.2.2.2.2, nI_1, xc.2]

