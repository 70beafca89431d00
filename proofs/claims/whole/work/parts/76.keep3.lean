/-! what is read of a text keeps the bounds of a track -/
def trk (B : Nat → Int32) : Prop := cntOK B ∧ sgB B ∧ psB B
theorem pNum_b {f lo hi : Int32} {lt : Nat → Nat} {n p : Nat} {x : Nat × Int32} (h : pNum f lo hi lt n p = .inl x) : iw lo hi x.2 := by
  unfold pNum at h
  by_cases q : nOK f lo hi (num lt n p) = 0
  · rw [if_pos q] at h; cases h
  · rw [if_neg q] at h
    cases h
    unfold nOK at q
    by_cases q2 : 0 < (num lt n p).1
    · rw [if_pos q2] at q
      by_cases q3 : vX10_isWithin (f * nI (num lt n p).2) lo hi = 0
      · rw [if_pos q3] at q; exact absurd rfl q
      · exact iw_of q3
    · rw [if_neg q2] at q; exact absurd rfl q
theorem pSg_b {x : Int32} {lt : Nat → Nat} {n p : Nat} {y : Nat × Int32} (h : pSg x lt n p = .inl y) : iw (-x) x y.2 := by
  unfold pSg at h
  by_cases q : hc lt n p = 45
  · rw [if_pos q] at h; exact pNum_b h
  · rw [if_neg q] at h; exact pNum_b h
theorem trk_seg {B : Nat → Int32} {k l c : Int32} (h : trk B) (hn : nSg B < 8) (hk : k = 0 ∨ k = 1 ∨ k = 2) (hl : iw 1 99 l) (hc : iw (-50) 50 c) : trk (addSeg B k l c) := by
  obtain ⟨⟨c1, c2, c3, c4⟩, h2, h3⟩ := h
  have o : ∀ j, j ≠ 40 → ¬ (41 + 3 * nSg B ≤ j ∧ j < 44 + 3 * nSg B) → addSeg B k l c j = B j := fun j a b => by
    unfold addSeg
    rw [if_neg (by omega), if_neg (by omega), if_neg (by omega), if_neg a]
  have e40 : addSeg B k l c 40 = nI (nSg B + 1) := by
    unfold addSeg
    rw [if_neg (by omega), if_neg (by omega), if_neg (by omega), if_pos rfl]
  have en : nSg (addSeg B k l c) = nSg B + 1 := by
    show (addSeg B k l c 40).toNatClampNeg = _
    rw [e40]; exact m_cl (by omega)
  have em : nPs (addSeg B k l c) = nPs B := by unfold nPs; rw [o 65 (by decide) (by omega)]
  have aK : rK (addSeg B k l c) (nSg B) = k := by show addSeg B k l c (41 + 3 * nSg B) = _; unfold addSeg; rw [if_pos rfl]
  have aL : rL (addSeg B k l c) (nSg B) = l := by show addSeg B k l c (41 + 3 * nSg B + 1) = _; unfold addSeg; rw [if_neg (by omega), if_pos rfl]
  have aC : rC (addSeg B k l c) (nSg B) = c := by show addSeg B k l c (41 + 3 * nSg B + 2) = _; unfold addSeg; rw [if_neg (by omega), if_neg (by omega), if_pos rfl]
  refine ⟨⟨by rw [en, e40], by rw [en]; omega, by rw [em, o 65 (by decide) (by omega)]; exact c3, by rw [em]; exact c4⟩, fun i hi => ?_, fun i hi => ?_⟩
  · rw [en] at hi
    by_cases q : i = nSg B
    · subst q
      rw [aK, aL, aC]
      exact ⟨hk, hl, hc⟩
    · rw [show rK (addSeg B k l c) i = rK B i from o _ (by omega) (by omega), show rL (addSeg B k l c) i = rL B i from o _ (by omega) (by omega), show rC (addSeg B k l c) i = rC B i from o _ (by omega) (by omega)]
      exact h2 i (by omega)
  · rw [em] at hi
    rw [show rF (addSeg B k l c) i = rF B i from o _ (by omega) (by omega), show rV (addSeg B k l c) i = rV B i from o _ (by omega) (by omega), show rW (addSeg B k l c) i = rW B i from o _ (by omega) (by omega)]
    exact h3 i hi
theorem trk_pus {B : Nat → Int32} {f v l : Int32} (h : trk B) (hn : nPs B < 4) (hf : iw 0 199 f) (hv : iw (-500) 500 v) (hl : iw 1 99 l) : trk (addPus B f v l) := by
  obtain ⟨⟨c1, c2, c3, c4⟩, h2, h3⟩ := h
  have o : ∀ j, j < 65 → addPus B f v l j = B j := fun j a => by
    unfold addPus
    rw [if_neg (by omega), if_neg (by omega), if_neg (by omega), if_neg (by omega)]
  have o2 : ∀ j, 66 ≤ j → ¬ (66 + 3 * nPs B ≤ j ∧ j < 69 + 3 * nPs B) → addPus B f v l j = B j := fun j a b => by
    unfold addPus
    rw [if_neg (by omega), if_neg (by omega), if_neg (by omega), if_neg (by omega)]
  have e65 : addPus B f v l 65 = nI (nPs B + 1) := by
    unfold addPus
    rw [if_neg (by omega), if_neg (by omega), if_neg (by omega), if_pos rfl]
  have en : nPs (addPus B f v l) = nPs B + 1 := by
    show (addPus B f v l 65).toNatClampNeg = _
    rw [e65]; exact m_cl (by omega)
  have em : nSg (addPus B f v l) = nSg B := by unfold nSg; rw [o 40 (by decide)]
  have aF : rF (addPus B f v l) (nPs B) = f := by show addPus B f v l (66 + 3 * nPs B) = _; unfold addPus; rw [if_pos rfl]
  have aV : rV (addPus B f v l) (nPs B) = v := by show addPus B f v l (66 + 3 * nPs B + 1) = _; unfold addPus; rw [if_neg (by omega), if_pos rfl]
  have aW : rW (addPus B f v l) (nPs B) = l := by show addPus B f v l (66 + 3 * nPs B + 2) = _; unfold addPus; rw [if_neg (by omega), if_neg (by omega), if_pos rfl]
  refine ⟨⟨by rw [em, o 40 (by decide)]; exact c1, by rw [em]; exact c2, by rw [en, e65], by rw [en]; omega⟩, fun i hi => ?_, fun i hi => ?_⟩
  · rw [em] at hi
    rw [show rK (addPus B f v l) i = rK B i from o _ (by omega), show rL (addPus B f v l) i = rL B i from o _ (by omega), show rC (addPus B f v l) i = rC B i from o _ (by omega)]
    exact h2 i hi
  · rw [en] at hi
    by_cases q : i = nPs B
    · subst q
      rw [aF, aV, aW]
      exact ⟨hf, hv, hl⟩
    · rw [show rF (addPus B f v l) i = rF B i from o2 _ (by omega) (by omega), show rV (addPus B f v l) i = rV B i from o2 _ (by omega) (by omega), show rW (addPus B f v l) i = rW B i from o2 _ (by omega) (by omega)]
      exact h3 i (by omega)
theorem pSeg_k {k : Int32} {lt : Nat → Nat} {n p : Nat} {B : Nat → Int32} {x : Nat × (Nat → Int32)} (h : pSeg k lt n p B = .inl x) (hB : trk B) (hn : nSg B < 8) (hk : k = 0 ∨ k = 1 ∨ k = 2) : trk x.2 := by
  unfold pSeg at h
  split at h
  · cases h
  · rename_i y hy
    by_cases q : k = 0
    · rw [if_pos q] at h
      cases h
      exact trk_seg hB hn hk (pNum_b hy) ⟨by decide, by decide⟩
    · rw [if_neg q] at h
      split at h
      · cases h
      · split at h
        · cases h
        · rename_i z hz
          cases h
          exact trk_seg hB hn hk (pNum_b hy) (pSg_b hz)
theorem pDis_k {lt : Nat → Nat} {n p : Nat} {B : Nat → Int32} {x : Nat × (Nat → Int32)} (h : pDis lt n p B = .inl x) (hB : trk B) (hn : nPs B < 4) : trk x.2 := by
  unfold pDis at h
  split at h
  · cases h
  · rename_i y hy
    split at h
    · cases h
    · split at h
      · cases h
      · rename_i z hz
        split at h
        · cases h
        · split at h
          · cases h
          · rename_i u hu
            cases h
            exact trk_pus hB hn (pNum_b hy) (pSg_b hz) (pNum_b hu)
theorem kd_v (x : Int32) : vX8_kindOf x < 0 ∨ vX8_kindOf x = 0 ∨ vX8_kindOf x = 1 ∨ vX8_kindOf x = 2 ∨ vX8_kindOf x = 3 := by
  unfold vX8_kindOf
  repeat' split
  all_goals decide
theorem pPart_k {lt : Nat → Nat} {n p : Nat} {B : Nat → Int32} {x : Nat × (Nat → Int32)} (h : pPart lt n p B = .inl x) (hB : trk B) : trk x.2 := by
  unfold pPart at h
  by_cases q0 : vX8_kindOf (nI (hc lt n p)) < 0
  · rw [if_pos q0] at h; cases h
  · rw [if_neg q0] at h
    by_cases q3 : vX8_kindOf (nI (hc lt n p)) = 3
    · rw [if_pos q3] at h
      by_cases q4 : nPs B < 4
      · rw [if_pos q4] at h; exact pDis_k h hB q4
      · rw [if_neg q4] at h; cases h
    · rw [if_neg q3] at h
      by_cases q4 : nSg B < 8
      · rw [if_pos q4] at h
        refine pSeg_k h hB q4 ?_
        rcases kd_v (nI (hc lt n p)) with c | c | c | c | c
        · exact absurd c q0
        · exact Or.inl c
        · exact Or.inr (Or.inl c)
        · exact Or.inr (Or.inr c)
        · exact absurd c q3
      · rw [if_neg q4] at h; cases h
theorem pTxt_k {lt : Nat → Nat} {n : Nat} : ∀ f p B B', pTxt lt n f p B = .inl B' → trk B → trk B'
  | 0, p, B, B', h, _ => by cases h
  | f + 1, p, B, B', h, hB => by
    rw [pTxt] at h
    split at h
    · cases h
    · rename_i x hx
      by_cases q : x.1 = n
      · rw [if_pos q] at h
        cases h
        exact pPart_k hx hB
      · rw [if_neg q] at h
        split at h
        · cases h
        · exact pTxt_k f _ _ _ h (pPart_k hx hB)
theorem trk_0 {B : Nat → Int32} (h1 : B 40 = 0) (h2 : B 65 = 0) : trk B := by
  have e1 : nSg B = 0 := by unfold nSg; rw [h1]; rfl
  have e2 : nPs B = 0 := by unfold nPs; rw [h2]; rfl
  exact ⟨⟨by rw [e1, h1]; rfl, by omega, by rw [e2, h2]; rfl, by omega⟩, fun i hi => absurd hi (by omega), fun i hi => absurd hi (by omega)⟩
theorem aOK_trk {A B C : Nat → Int32} (ok : aOK A) (hB : trk B) (h1 : ∀ k, k < 40 → C k = A k) (h2 : ∀ k, 40 ≤ k → k < 78 → C k = B k) : aOK C := by
  obtain ⟨g1, g2, g3, g4, g5, g6, g7, -, -, -⟩ := ok
  obtain ⟨p1, p2, p3⟩ := pt_c (B := C) (fun k _ hk => h1 k hk) g5 g6 g7
  obtain ⟨t1, t2, t3⟩ := tk_c (B := C) h2 hB.1 hB.2.1 hB.2.2
  exact ⟨fun k hk => by rw [h1 k (by omega)]; exact g1 k hk, fun k hk => by rw [h1 _ (by omega)]; exact g2 k hk, gOK_c (fun k _ hk => h1 k (by omega)) g3, gdB_c (fun k _ hk => h1 k (by omega)) g4, p1, p2, p3, t1, t2, t3⟩
