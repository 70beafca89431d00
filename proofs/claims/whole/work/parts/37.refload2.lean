/-! the reference's part, whole -/
theorem part_47 {G : mG} {w : mH} {a0 n p m1 m2 : Nat} {lt : Nat → Nat} {x1 x2 : Int32} {B : Nat → Int32} (z : zRef w a0) (h : rS w a0 lt n) (hp : rP w a0 = p) (hpn : p ≤ n) (h10 : hfi w a0 10 = -1) (hB : hai w (a0 + 6) = B) (hm1 : nSg B = m1) (h40 : B 40 = nI m1) (h8 : m1 ≤ 8) (hm2 : nPs B = m2) (h65 : B 65 = nI m2) (h4 : m2 ≤ 4) (hk : vX8_kindOf (nI (hc lt n p)) = x2) (h5 : x2 = -1 ∨ x2 = 0 ∨ x2 = 1 ∨ x2 = 2 ∨ x2 = 3) : mW G mX11_part 5 0 0 47 [(0, .ref a0), (1, .int x1), (2, .int x2)] [] w (mP none (fun w' => ptO w w' a0 (pPart lt n p B) 900)) := by
  have hn50 := h.2.1
  refine gX11_part_47 (lt := lt) (n := n) (a0_11 := a0 + 6) z.1 z.2.2.2.2.2.2.1 z.2.2.2.2.2.2.2.2.2.2.2.2.2.2.2.2.2.2.2.2.2.2.2.2.2.2.2.1 (by intros; unfold vp_in; decide) (by intros; unfold vp_in; decide) (by intros; unfold vp_in; decide) ?_ ?_ ?_ ?_ ?_ ?_ ?_ ?_
  · intro c1 w1 e1
    have e : pPart lt n p B = .inr p := by unfold pPart; rw [hk]; rw [if_pos c1]
    rw [e]
    have ep : hfi w a0 9 = nI p := by rw [← hp]; exact h.2.2.2.1
    exact mP_of ⟨by rw [e1]; exact xF_sfi xF.rf (by decide), ⟨p, by rw [e1, e_hfi_sfi, up2_k _ _ _ (by decide)]; exact ep, by omega⟩, fun x hx => (by cases hx), fun q hq => (by cases hq; rw [e1, e_hfi_sfi, up2_at]; exact ep)⟩
  · intro c1 c2 c3
    exfalso
    rcases h5 with q | q | q | q | q <;> rw [q] at c1 c2 c3 <;> revert c1 c2 c3 <;> decide
  · intro c1 c2 c3 c4
    have hr : nSg B < 8 := by
      have : m1 ≠ 8 := fun q => c4 (by rw [hB, h40, q]; rfl)
      omega
    have e : pPart lt n p B = pSeg x2 lt n (p + 1) B := by unfold pPart; rw [hk, if_neg c1, if_neg c2, if_pos hr]
    rw [e]
    have hpn : p + 1 ≤ n := hc_lt (fun q => c1 (by rw [← hk]; exact kd_0 q))
    obtain ⟨k, hk3, hkk⟩ : ∃ k, x2 = nI k ∧ k < 3 := by
      rcases h5 with q | q | q | q | q
      · exact absurd (show x2 < 0 by rw [q]; decide) c1
      · exact ⟨0, q, by decide⟩
      · exact ⟨1, q, by decide⟩
      · exact ⟨2, q, by decide⟩
      · exact absurd q c2
    refine gX11_part_97 (lt := lt) (n := n) (a0_11 := a0 + 6) z.1 z.2.2.2.2.2.2.1 z.2.2.2.2.2.2.2.2.2.2.2.2.2.2.2.2.2.2.2.2.2.2.2.2.2.2.2.1 (by intros; unfold vp_in; decide) (by intros; unfold vp_in; decide) ?_ ?_
    · intro w1 e1 _
      have U := u_mv h (by omega) e1
      have P0 : pT w w1 a0 lt n (p + 1) (-1) B (hfi w a0 12) 60 := ⟨⟨U.1.wide (by decide) (by decide), U.2.1, by rw [U.2.2, hp], by rw [e1, e_hfi_sfi, up2_k _ _ _ (by decide)]; exact h10, by rw [e1]; exact hB, by rw [e1, e_hfi_sfi, up2_k _ _ _ (by decide)]⟩, by omega⟩
      refine gX11_part_140 (lt := lt) (n := n) (fun _ => ?_) (fun q => absurd q c2)
      exact part_seg z P0 hpn rfl (by rw [e1]; show (41 : Int32) + 3 * hai w (a0 + 6) 40 = _; rw [hB, h40, m_41]) hm1 h40 (by omega) hk3 hkk
    · intro w1 e1 q
      exact absurd q c2
  · intro c1 c2 c3 c4 w2 e2
    have e : pPart lt n p B = .inr p := by unfold pPart; rw [hk]; rw [if_neg c1, if_neg c2, if_neg (by rw [hB, h40] at c4; have := (nI_eq (b := 8) (by omega) (by omega)).mp c4; omega)]
    rw [e]
    have ep : hfi w a0 9 = nI p := by rw [← hp]; exact h.2.2.2.1
    exact mP_of ⟨by rw [e2]; exact xF_sfi xF.rf (by decide), ⟨p, by rw [e2, e_hfi_sfi, up2_k _ _ _ (by decide)]; exact ep, by omega⟩, fun x hx => (by cases hx), fun q hq => (by cases hq; rw [e2, e_hfi_sfi, up2_at]; exact ep)⟩
  · intro c1 c2 c5 w3 e3
    have e : pPart lt n p B = .inr p := by unfold pPart; rw [hk]; rw [if_neg c1, if_pos c2, if_neg (by rw [hB, h65] at c5; have := (nI_eq (b := 4) (by omega) (by omega)).mp c5; omega)]
    rw [e]
    have ep : hfi w a0 9 = nI p := by rw [← hp]; exact h.2.2.2.1
    exact mP_of ⟨by rw [e3]; exact xF_sfi xF.rf (by decide), ⟨p, by rw [e3, e_hfi_sfi, up2_k _ _ _ (by decide)]; exact ep, by omega⟩, fun x hx => (by cases hx), fun q hq => (by cases hq; rw [e3, e_hfi_sfi, up2_at]; exact ep)⟩
  · intro c1 c2 c5 c6
    have hr : nPs B < 4 := by
      have : m2 ≠ 4 := fun q => c5 (by rw [hB, h65, q]; rfl)
      omega
    have e : pPart lt n p B = pDis lt n (p + 1) B := by unfold pPart; rw [hk, if_neg c1, if_pos c2, if_pos hr]
    rw [e]
    have hpn : p + 1 ≤ n := hc_lt (fun q => c1 (by rw [← hk]; exact kd_0 q))
    refine gX11_part_97 (lt := lt) (n := n) (a0_11 := a0 + 6) z.1 z.2.2.2.2.2.2.1 z.2.2.2.2.2.2.2.2.2.2.2.2.2.2.2.2.2.2.2.2.2.2.2.2.2.2.2.1 (by intros; unfold vp_in; decide) (by intros; unfold vp_in; decide) ?_ ?_
    · intro w1 e1 q
      exact absurd c2 q
    · intro w1 e1 _
      have U := u_mv h (by omega) e1
      have P0 : pT w w1 a0 lt n (p + 1) (-1) B (hfi w a0 12) 60 := ⟨⟨U.1.wide (by decide) (by decide), U.2.1, by rw [U.2.2, hp], by rw [e1, e_hfi_sfi, up2_k _ _ _ (by decide)]; exact h10, by rw [e1]; exact hB, by rw [e1, e_hfi_sfi, up2_k _ _ _ (by decide)]⟩, by omega⟩
      refine gX11_part_140 (lt := lt) (n := n) (fun q => absurd c2 q) (fun _ => ?_)
      exact part_dis z P0 hpn rfl (by rw [e1]; show (66 : Int32) + 3 * hai w (a0 + 6) 65 = _; rw [hB, h65, m_66]) hm2 h65 (by omega)
  · intro c1 c2 c5 c6 c7
    exact absurd (by rw [c2]; decide) c6
  · intro c1 c2 c5 c6 c7 w4 e4
    exact absurd (by rw [c2]; decide) c6
theorem rX11_part {G : mG} {w : mH} {a0 n p m1 m2 : Nat} {lt : Nat → Nat} {B : Nat → Int32} (z : zRef w a0) (h : rS w a0 lt n) (hp : rP w a0 = p) (hpn : p ≤ n) (h10 : hfi w a0 10 = -1) (hB : hai w (a0 + 6) = B) (hm1 : nSg B = m1) (h40 : B 40 = nI m1) (h8 : m1 ≤ 8) (hm2 : nPs B = m2) (h65 : B 65 = nI m2) (h4 : m2 ≤ 4) : mC G mX11_part 5 0 0 [.ref a0] w (mP none (fun w' => ptO w w' a0 (pPart lt n p B) 900)) := by
  have hl : ∀ i, i < n → 33 ≤ lt i ∧ lt i ≤ 126 := fun i hi => (h.2.2.1 i hi).2
  have hle : hc lt n p ≤ 126 := by
    unfold hc
    by_cases hp : p < n
    · rw [if_pos hp]; exact (hl p hp).2
    · rw [if_neg hp]; omega
  have i98 : hI lt n (rP w a0) = 98 ↔ nI (hc lt n p) = 98 := by rw [hp]; exact (hI_c (c := 98) hl (by decide) (by decide)).trans (nI_eq (b := 98) (by omega) (by decide)).symm
  have i112 : hI lt n (rP w a0) = 112 ↔ nI (hc lt n p) = 112 := by rw [hp]; exact (hI_c (c := 112) hl (by decide) (by decide)).trans (nI_eq (b := 112) (by omega) (by decide)).symm
  have i114 : hI lt n (rP w a0) = 114 ↔ nI (hc lt n p) = 114 := by rw [hp]; exact (hI_c (c := 114) hl (by decide) (by decide)).trans (nI_eq (b := 114) (by omega) (by decide)).symm
  have i115 : hI lt n (rP w a0) = 115 ↔ nI (hc lt n p) = 115 := by rw [hp]; exact (hI_c (c := 115) hl (by decide) (by decide)).trans (nI_eq (b := 115) (by omega) (by decide)).symm
  have hn50 := h.2.1
  refine mC_of (by decide +kernel) rfl (Nat.le_of_ble_eq_true rfl) rfl ?_
  refine gX11_part_0 (lt := lt) (n := n) z.1 z h ?_ ?_ ?_ ?_ ?_
  · intro c1 c2 c3 c4
    rw [i115] at c1
    rw [i98] at c2
    rw [i114] at c3
    rw [i112] at c4
    exact part_47 z h hp hpn h10 hB hm1 h40 h8 hm2 h65 h4 (by unfold vX8_kindOf; rw [if_neg c2, if_neg c4, if_neg c3, if_neg c1]) (by decide)
  · intro c1 c2 c3 c4
    rw [i115] at c1
    rw [i98] at c2
    rw [i114] at c3
    rw [i112] at c4
    exact part_47 z h hp hpn h10 hB hm1 h40 h8 hm2 h65 h4 (by unfold vX8_kindOf; rw [if_neg c2, if_pos c4]) (by decide)
  · intro c1 c2 c3
    rw [i115] at c1
    rw [i98] at c2
    rw [i114] at c3
    exact part_47 z h hp hpn h10 hB hm1 h40 h8 hm2 h65 h4 (by unfold vX8_kindOf; rw [if_neg c2, if_neg (by rw [c3]; decide), if_pos c3]) (by decide)
  · intro c1 c2
    rw [i115] at c1
    rw [i98] at c2
    exact part_47 z h hp hpn h10 hB hm1 h40 h8 hm2 h65 h4 (by unfold vX8_kindOf; rw [if_pos c2]) (by decide)
  · intro c1
    rw [i115] at c1
    exact part_47 z h hp hpn h10 hB hm1 h40 h8 hm2 h65 h4 (by unfold vX8_kindOf; rw [if_neg (by rw [c1]; decide), if_neg (by rw [c1]; decide), if_neg (by rw [c1]; decide), if_pos c1]) (by decide)

