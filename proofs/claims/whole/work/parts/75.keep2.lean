/-! a point put in, a point taken out -/
theorem fIdx_sp {X : Nat → Int32} {x : Int32} : ∀ j i, (fIdx X x j i = -1 ∧ ∀ t, i ≤ t → t < i + j → X t ≠ x) ∨ ∃ q, i ≤ q ∧ q < i + j ∧ X q = x ∧ fIdx X x j i = nI q
  | 0, i => Or.inl ⟨rfl, fun t h1 h2 => by omega⟩
  | j + 1, i => by
    rw [fIdx]
    by_cases h : X i = x
    · rw [if_pos h]
      exact Or.inr ⟨i, Nat.le_refl _, by omega, h, rfl⟩
    · rw [if_neg h]
      rcases fIdx_sp j (i + 1) with ⟨h1, h2⟩ | ⟨q, h1, h2, h3, h4⟩
      · refine Or.inl ⟨h1, fun t g1 g2 => ?_⟩
        by_cases e : t = i
        · rw [e]; exact h
        · exact h2 t (by omega) (by omega)
      · exact Or.inr ⟨q, by omega, by omega, h3, h4⟩
theorem fIns_sp {p : Int32} : ∀ n A, (fIns p n A).2 ≤ n ∧ (∀ i, i < (fIns p n A).2 → rX (fIns p n A).1 i = rX A i ∧ rY (fIns p n A).1 i = rY A i) ∧ (∀ i, (fIns p n A).2 ≤ i → i < n → rX (fIns p n A).1 (i + 1) = rX A i ∧ rY (fIns p n A).1 (i + 1) = rY A i ∧ ¬ rX A i ≤ p) ∧ ((fIns p n A).2 = 0 ∨ rX A ((fIns p n A).2 - 1) ≤ p) ∧ ∀ j, j < 32 ∨ 32 + 2 * n ≤ j → (fIns p n A).1 j = A j
  | 0, A => ⟨Nat.le_refl _, fun i hi => absurd hi (Nat.not_lt_zero _), fun i _ hi => absurd hi (Nat.not_lt_zero _), Or.inl rfl, fun j _ => rfl⟩
  | n + 1, A => by
    rw [fIns]
    by_cases h : A (30 + 2 * n) ≤ p
    · rw [if_pos h]
      exact ⟨Nat.le_refl _, fun i _ => ⟨rfl, rfl⟩, fun i h1 h2 => absurd h2 (Nat.not_lt.mpr h1), Or.inr h, fun j _ => rfl⟩
    · rw [if_neg h]
      generalize hA' : upd (upd A (30 + 2 * (n + 1)) (A (30 + 2 * n))) (30 + 2 * (n + 1) + 1) (A (30 + 2 * n + 1)) = A'
      obtain ⟨h1, h2, h3, h4, h5⟩ := fIns_sp (p := p) n A'
      have eX : ∀ i, i ≤ n → rX A' i = rX A i := fun i hi => by rw [← hA']; show upd _ _ _ (30 + 2 * i) = _; rw [upd_ne (by omega), upd_ne (by omega)]; rfl
      have eY : ∀ i, i ≤ n → rY A' i = rY A i := fun i hi => by rw [← hA']; show upd _ _ _ (30 + 2 * i + 1) = _; rw [upd_ne (by omega), upd_ne (by omega)]; rfl
      have e1 : A' (30 + 2 * (n + 1)) = A (30 + 2 * n) := by rw [← hA', upd_ne (by omega)]; exact if_pos rfl
      have e2 : A' (30 + 2 * (n + 1) + 1) = A (30 + 2 * n + 1) := by rw [← hA']; exact if_pos rfl
      refine ⟨by omega, fun i hi => ?_, fun i g1 g2 => ?_, ?_, fun j hj => ?_⟩
      · obtain ⟨a, b⟩ := h2 i hi
        exact ⟨a.trans (eX i (by omega)), b.trans (eY i (by omega))⟩
      · by_cases q : i = n
        · subst q
          refine ⟨?_, ?_, h⟩
          · show (fIns p i A').1 (30 + 2 * (i + 1)) = _
            rw [h5 _ (by omega), e1]; rfl
          · show (fIns p i A').1 (30 + 2 * (i + 1) + 1) = _
            rw [h5 _ (by omega), e2]; rfl
        · obtain ⟨a, b, c⟩ := h3 i g1 (by omega)
          exact ⟨a.trans (eX i (by omega)), b.trans (eY i (by omega)), by rw [eX i (by omega)] at c; exact c⟩
      · rcases h4 with h4 | h4
        · exact Or.inl h4
        · by_cases q : (fIns p n A').2 = 0
          · exact Or.inl q
          · exact Or.inr (by rw [eX _ (by omega)] at h4; exact h4)
      · rw [h5 j (by omega), ← hA', upd_ne (by omega), upd_ne (by omega)]
theorem in2_X {A : Nat → Int32} {k : Nat} {p v : Int32} (i : Nat) : rX (fIn2 A k p v) i = if i = k then p else rX A i := by
  show upd _ _ _ (30 + 2 * i) = _
  rw [upd_ne (by omega)]
  by_cases q : i = k
  · subst q; rw [if_pos rfl]; exact if_pos rfl
  · rw [if_neg q, upd_ne (by omega)]; rfl
theorem in2_Y {A : Nat → Int32} {k : Nat} {p v : Int32} (i : Nat) : rY (fIn2 A k p v) i = if i = k then v else rY A i := by
  show upd _ _ _ (30 + 2 * i + 1) = _
  by_cases q : i = k
  · subst q; rw [if_pos rfl]; exact if_pos rfl
  · rw [if_neg q, upd_ne (by omega), upd_ne (by omega)]; rfl
theorem in2_o {A : Nat → Int32} {k j : Nat} {p v : Int32} (h : j < 30 ∨ 32 + 2 * k ≤ j) : fIn2 A k p v j = A j := by
  unfold fIn2
  rw [upd_ne (by omega), upd_ne (by omega)]
theorem aOK_pt {A B : Nat → Int32} (h : ∀ k, k < 29 ∨ 40 ≤ k → B k = A k) (hp : ptOK B) (hs : srt B) (hb : ptB B) (ok : aOK A) : aOK B := by
  obtain ⟨h1, h2, h3, h4, h5, h6, h7, h8, h9, h10⟩ := ok
  obtain ⟨t1, t2, t3⟩ := tk_c (B := B) (fun k hk _ => h k (by omega)) h8 h9 h10
  exact ⟨fun k hk => by rw [h k (by omega)]; exact h1 k hk, fun k hk => by rw [h _ (by omega)]; exact h2 k hk, gOK_c (fun k hk _ => h k (by omega)) h3, gdB_c (fun k hk _ => h k (by omega)) h4, hp, hs, hb, t1, t2, t3⟩
theorem aOK_put {A : Nat → Int32} {p v : Int32} (hp : iw (-10000) 10000 p) (hv : iw (-1000) 1000 v) (hr : fAt A p < 0 → ¬ A 29 = 5) (ok : aOK A) : aOK (fPut A p v) := by
  obtain ⟨n29, n5⟩ := ok.2.2.2.2.1
  have hsr := ok.2.2.2.2.2.1
  have hb := ok.2.2.2.2.2.2.1
  unfold fPut
  rcases fIdx_sp (X := rX A) (x := p) (nPt A) 0 with ⟨e, hn⟩ | ⟨q, -, hq, hX, e⟩
  · have e' : fAt A p = -1 := e
    have hlt : fAt A p < 0 := by rw [e']; decide
    rw [if_pos hlt]
    have n4 : nPt A < 5 := by
      have := hr hlt
      rw [n29] at this
      exact Nat.lt_of_le_of_ne n5 (fun c => this (by rw [c]; rfl))
    generalize hA1 : upd A 29 (A 29 + 1) = A1
    obtain ⟨h1, h2, h3, h4, h5⟩ := fIns_sp (p := p) (nPt A) A1
    have x1 : ∀ i, rX A1 i = rX A i := fun i => by rw [← hA1]; exact upd_ne (by omega)
    have y1 : ∀ i, rY A1 i = rY A i := fun i => by rw [← hA1]; exact upd_ne (by omega)
    generalize hk : (fIns p (nPt A) A1).2 = k at *
    generalize hR : (fIns p (nPt A) A1).1 = R at *
    have b29 : fIn2 R k p v 29 = nI (nPt A + 1) := by rw [in2_o (by omega), h5 29 (by omega), ← hA1]; show upd A 29 (A 29 + 1) 29 = _; rw [show upd A 29 (A 29 + 1) 29 = A 29 + 1 from if_pos rfl, n29, nI_1]
    have bn : nPt (fIn2 R k p v) = nPt A + 1 := by unfold nPt; rw [b29]; exact m_cl (by unfold nPt at n4; omega)
    have lo : ∀ i, i < k → rX (fIn2 R k p v) i = rX A i ∧ rY (fIn2 R k p v) i = rY A i := fun i hi => by
      rw [in2_X, in2_Y, if_neg (by omega), if_neg (by omega), (h2 i hi).1, (h2 i hi).2, x1, y1]
      exact ⟨rfl, rfl⟩
    have at' : rX (fIn2 R k p v) k = p ∧ rY (fIn2 R k p v) k = v := by rw [in2_X, in2_Y, if_pos rfl, if_pos rfl]; exact ⟨rfl, rfl⟩
    have hi' : ∀ i, k ≤ i → i < nPt A → rX (fIn2 R k p v) (i + 1) = rX A i ∧ rY (fIn2 R k p v) (i + 1) = rY A i ∧ p < rX A i := fun i g1 g2 => by
      obtain ⟨a, b, c⟩ := h3 i g1 g2
      rw [x1] at a c
      rw [y1] at b
      rw [in2_X, in2_Y, if_neg (by omega), if_neg (by omega), a, b]
      exact ⟨rfl, rfl, Int32.not_le.mp c⟩
    refine aOK_pt (A := A) (fun j hj => ?_) ⟨by rw [bn]; exact b29, by rw [bn]; omega⟩ (fun i hi => ?_) (fun i hi => ?_) ok
    · rw [in2_o (by omega), h5 j (by omega), ← hA1, upd_ne (by omega)]
    · rw [bn] at hi
      by_cases c1 : i + 1 < k
      · rw [(lo i (by omega)).1, (lo (i + 1) c1).1]
        exact hsr i (by omega)
      · by_cases c2 : i + 1 = k
        · rw [(lo i (by omega)).1, c2, at'.1]
          have hle := h4.resolve_left (by omega)
          rw [show k - 1 = i by omega, x1] at hle
          exact Int32.lt_of_le_of_ne hle (hn i (Nat.zero_le _) (by omega))
        · by_cases c3 : i = k
          · subst c3
            rw [at'.1, (hi' i (Nat.le_refl _) (by omega)).1]
            exact (hi' i (Nat.le_refl _) (by omega)).2.2
          · obtain ⟨m, rfl⟩ : ∃ m, i = m + 1 := ⟨i - 1, by omega⟩
            rw [(hi' m (by omega) (by omega)).1, (hi' (m + 1) (by omega) (by omega)).1]
            exact hsr m (by omega)
    · rw [bn] at hi
      by_cases c1 : i < k
      · rw [(lo i c1).1, (lo i c1).2]
        exact hb i (by omega)
      · by_cases c3 : i = k
        · subst c3
          rw [at'.1, at'.2]
          exact ⟨hp, hv⟩
        · obtain ⟨m, rfl⟩ : ∃ m, i = m + 1 := ⟨i - 1, by omega⟩
          rw [(hi' m (by omega) (by omega)).1, (hi' m (by omega) (by omega)).2.1]
          exact hb m (by omega)
  · have e' : fAt A p = nI q := e
    have hq' : q < nPt A := by omega
    have hnl : ¬ fAt A p < 0 := by rw [e']; exact m_0le (by omega)
    rw [if_neg hnl, e', m_cl (by omega)]
    have bn : nPt (fIn2 A q p v) = nPt A := by unfold nPt; rw [in2_o (by omega)]
    have eX : ∀ i, rX (fIn2 A q p v) i = rX A i := fun i => by
      rw [in2_X]
      by_cases c : i = q
      · rw [if_pos c, c, hX]
      · rw [if_neg c]
    refine aOK_pt (A := A) (fun j hj => in2_o (by omega)) ⟨by rw [bn, in2_o (by omega)]; exact n29, by rw [bn]; exact n5⟩ (fun i hi => ?_) (fun i hi => ?_) ok
    · rw [bn] at hi
      rw [eX, eX]
      exact hsr i hi
    · rw [bn] at hi
      rw [eX, in2_Y]
      refine ⟨(hb i hi).1, ?_⟩
      by_cases c : i = q
      · rw [if_pos c]; exact hv
      · rw [if_neg c]; exact (hb i hi).2
theorem fDel_sp : ∀ j k A, (∀ i, i < k → rX (fDel j k A) i = rX A i ∧ rY (fDel j k A) i = rY A i) ∧ (∀ i, k ≤ i → i < k + j → rX (fDel j k A) i = rX A (i + 1) ∧ rY (fDel j k A) i = rY A (i + 1)) ∧ ∀ i, i < 30 ∨ 30 + 2 * (k + j) ≤ i → fDel j k A i = A i
  | 0, k, A => ⟨fun i _ => ⟨rfl, rfl⟩, fun i h1 h2 => absurd h2 (by omega), fun i _ => rfl⟩
  | j + 1, k, A => by
    rw [fDel]
    generalize hA' : upd (upd A (30 + 2 * k) (A (30 + 2 * (k + 1)))) (30 + 2 * k + 1) (A (30 + 2 * (k + 1) + 1)) = A'
    obtain ⟨h1, h2, h3⟩ := fDel_sp j (k + 1) A'
    have o : ∀ i, i ≠ 30 + 2 * k → i ≠ 30 + 2 * k + 1 → A' i = A i := fun i a b => by rw [← hA', upd_ne b, upd_ne a]
    refine ⟨fun i hi => ?_, fun i g1 g2 => ?_, fun i hi => ?_⟩
    · obtain ⟨a, b⟩ := h1 i (by omega)
      exact ⟨a.trans (o _ (by omega) (by omega)), b.trans (o _ (by omega) (by omega))⟩
    · by_cases q : i = k
      · subst q
        obtain ⟨a, b⟩ := h1 i (by omega)
        refine ⟨a.trans ?_, b.trans ?_⟩
        · show A' (30 + 2 * i) = _
          rw [← hA', upd_ne (by omega)]
          exact if_pos rfl
        · show A' (30 + 2 * i + 1) = _
          rw [← hA']
          exact if_pos rfl
      · obtain ⟨a, b⟩ := h2 i (by omega) (by omega)
        exact ⟨a.trans (o _ (by omega) (by omega)), b.trans (o _ (by omega) (by omega))⟩
    · rw [h3 i (by omega), o i (by omega) (by omega)]
theorem aOK_cut {A : Nat → Int32} {k : Nat} (hk : k < nPt A) (ok : aOK A) : aOK (fCut A k) := by
  obtain ⟨n29, n5⟩ := ok.2.2.2.2.1
  have hsr := ok.2.2.2.2.2.1
  have hb := ok.2.2.2.2.2.2.1
  obtain ⟨h1, h2, h3⟩ := fDel_sp (nPt A - 1 - k) k A
  obtain ⟨m, hm⟩ : ∃ m, nPt A = m + 1 := ⟨nPt A - 1, by omega⟩
  have b29 : fCut A k 29 = nI m := by unfold fCut; rw [show upd _ 29 (A 29 - 1) 29 = A 29 - 1 from if_pos rfl, n29, hm, m_sub1]
  have bn : nPt (fCut A k) = m := by
    show (fCut A k 29).toNatClampNeg = m
    rw [b29]
    exact m_cl (by omega)
  have eX : ∀ i, i < m → rX (fCut A k) i = (if i < k then rX A i else rX A (i + 1)) ∧ rY (fCut A k) i = (if i < k then rY A i else rY A (i + 1)) := fun i hi => by
    have a : rX (fCut A k) i = rX (fDel (nPt A - 1 - k) k A) i := upd_ne (by omega)
    have b : rY (fCut A k) i = rY (fDel (nPt A - 1 - k) k A) i := upd_ne (by omega)
    rw [a, b]
    by_cases q : i < k
    · rw [if_pos q, if_pos q]; exact h1 i q
    · rw [if_neg q, if_neg q]; exact h2 i (by omega) (by omega)
  refine aOK_pt (A := A) (fun j hj => ?_) ⟨by rw [bn]; exact b29, by rw [bn]; omega⟩ (fun i hi => ?_) (fun i hi => ?_) ok
  · unfold fCut
    rw [upd_ne (by omega)]
    exact h3 j (by omega)
  · rw [bn] at hi
    rw [(eX i (by omega)).1, (eX (i + 1) hi).1]
    by_cases q : i + 1 < k
    · rw [if_pos (by omega), if_pos q]; exact hsr i (by omega)
    · rw [if_neg q]
      by_cases q2 : i < k
      · rw [if_pos q2]
        exact Int32.lt_trans (hsr i (by omega)) (hsr (i + 1) (by omega))
      · rw [if_neg q2]; exact hsr (i + 1) (by omega)
  · rw [bn] at hi
    rw [(eX i hi).1, (eX i hi).2]
    by_cases q : i < k
    · rw [if_pos q, if_pos q]; exact hb i (by omega)
    · rw [if_neg q, if_neg q]; exact hb (i + 1) (by omega)
