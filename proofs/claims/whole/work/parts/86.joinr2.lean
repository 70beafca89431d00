theorem one_i {α : Type} {N : Nat} {x y : α} : (if (if N = 0 then (0 : Int32) else 1) = 0 then x else y) = (if N = 0 then x else y) := by
  by_cases q : N = 0
  · rw [if_pos q, if_pos q, if_pos rfl]
  · rw [if_neg q, if_neg q, if_neg (by decide)]
theorem nT_nI {N : Nat} (h : N ≤ 70000) : nT (nI N) = N := m_cl h
theorem zL_at {R : Nat → Int32} {T : Nat → Nat → Int32} {N j t : Nat} (h : zL R T N (N + 1)) (hj : j ≤ 5) (ht : t ≤ N) (hq : j = 0 ∨ t < N) : R (201 * j + t) = T j t := by
  obtain ⟨g0, g1, g2, g3, g4, g5⟩ := h
  have hc : j = 0 ∨ j = 1 ∨ j = 2 ∨ j = 3 ∨ j = 4 ∨ j = 5 := by omega
  rcases hc with e | e | e | e | e | e <;> subst e
  · rw [Nat.mul_zero, Nat.zero_add]; exact g0 t (by omega)
  · exact g1 t (by omega)
  · exact g2 t (by omega)
  · exact g3 t (by omega)
  · exact g4 t (by omega)
  · exact g5 t (by omega)
theorem nI_201 (j t : Nat) : (201 : Int32) * nI j + nI t = nI (201 * j + t) := by
  show nI 201 * nI j + nI t = _
  unfold nI
  rw [← Int32.ofNat_mul, ← Int32.ofNat_add]
def tTr (N : Nat) (x1 x2 : Int32) : Int32 := if N = 0 then 1 else if vX10_isWithin x1 0 (nI N) = 0 then 2 else if vX10_isWithin x2 0 5 = 0 then 3 else if x1 = nI N then (if x2 = 0 then 0 else 3) else 0
theorem tTr_b {N : Nat} {x1 x2 : Int32} : tTr N x1 x2 = 0 ∨ tTr N x1 x2 = 1 ∨ tTr N x1 x2 = 2 ∨ tTr N x1 x2 = 3 := by
  unfold tTr
  by_cases q1 : N = 0
  · rw [if_pos q1]; exact Or.inr (Or.inl rfl)
  rw [if_neg q1]
  by_cases q2 : vX10_isWithin x1 0 (nI N) = 0
  · rw [if_pos q2]; exact Or.inr (Or.inr (Or.inl rfl))
  rw [if_neg q2]
  by_cases q3 : vX10_isWithin x2 0 5 = 0
  · rw [if_pos q3]; exact Or.inr (Or.inr (Or.inr rfl))
  rw [if_neg q3]
  by_cases q4 : x1 = nI N
  · rw [if_pos q4]
    by_cases q5 : x2 = 0
    · rw [if_pos q5]; exact Or.inl rfl
    · rw [if_neg q5]; exact Or.inr (Or.inr (Or.inr rfl))
  · rw [if_neg q4]; exact Or.inl rfl
theorem tTr_0 {N : Nat} {x1 x2 : Int32} (h : tTr N x1 x2 = 0) : ¬ N = 0 ∧ ¬ vX10_isWithin x1 0 (nI N) = 0 ∧ ¬ vX10_isWithin x2 0 5 = 0 ∧ (x1 = nI N → x2 = 0) := by
  unfold tTr at h
  by_cases q1 : N = 0
  · rw [if_pos q1] at h; exact absurd h (by decide)
  rw [if_neg q1] at h
  by_cases q2 : vX10_isWithin x1 0 (nI N) = 0
  · rw [if_pos q2] at h; exact absurd h (by decide)
  rw [if_neg q2] at h
  by_cases q3 : vX10_isWithin x2 0 5 = 0
  · rw [if_pos q3] at h; exact absurd h (by decide)
  rw [if_neg q3] at h
  refine ⟨q1, q2, q3, fun q4 => ?_⟩
  rw [if_pos q4] at h
  by_cases q5 : x2 = 0
  · exact q5
  · rw [if_neg q5] at h; exact absurd h (by decide)
theorem le0_w {α : Type} {p q : α} {x : Int32} (h : ¬ vX10_isWithin x 0 5 = 0) : (if x ≤ 0 then p else q) = (if x = 0 then p else q) := by
  obtain ⟨j, hj, e⟩ := iw_N (n := 5) (by decide) rfl h
  by_cases r : x = 0
  · rw [if_pos r, if_pos (by rw [r]; decide)]
  · rw [if_neg r, if_neg (fun g => r (by rw [e] at g ⊢; rw [m_le0 (by omega)] at g; rw [g]; rfl))]

theorem K_trace {G : mG} {a b : Nat} {w : mH} {x1 : Int32} {x2 : Int32} (I : gI a b w) : mCH G mL_trace 10 1 6 [.ref a, .int x1, .int x2, .ref (b + 22)] w (fun r u => ∃ t : Int32, r = .inl (some (.int t)) ∧ hk u b = (11, 0) ∧ mC G mX11_trace 3 0 0 [.ref b, .int x1, .int x2] u (fun r' u' => ∃ v : Int32, r' = .inl (some (.int v)) ∧ gP a b u' t (v.toInt64))) := by
  obtain ⟨hb, i2, i3, i4, i5, i6, i7, i8, i9, i10, i11, i12, i13, i14, i15, i16⟩ := id I
  obtain ⟨N, X, c1, c2, c3, c4, c5, c6⟩ := id i13
  refine mCH_mono (fun r u h => ?_) (tL_trace (show mC _ _ _ _ _ _ _ (tpO _ _ _ (tTr N x1 x2) _ _ _) from tX10_trace i3 c2 c1) i3.1 (tTr_b) (fun u hu => by cases hu; exact i5))
  obtain ⟨hr, h0, h1⟩ := h
  refine ⟨_, hr, ?_⟩
  obtain ⟨T, hy⟩ := jn_rd (a := a) h0 h1
  have z := zRef_o (T 0 0 0 0 0 [] []) hb i4
  refine ⟨z.1, ?_⟩
  have r1 : hai u (b + 1) = hai w (b + 1) := (T 0 0 0 0 0 [] []).ai (by decide) (by decide) (by decide)
  refine mC_mono (fun r' u' h' => ?_) (rX11_trace z (by rw [(T 0 0 0 0 0 [] []).fi (show 26 ∉ ([] : List Nat) by decide), c3, nT_nI (by omega)]; exact ⟨rfl, c1⟩))
  obtain ⟨rfl, rfl⟩ := h'
  have e25 : hfi u b 25 = (if N = 0 then 0 else 1) := by rw [(T 0 0 0 0 0 [] []).fi (by decide)]; exact c4
  have e26 : hfi u b 26 = nI N := by rw [(T 0 0 0 0 0 [] []).fi (by decide)]; exact c3
  have r15 : hai u (b + 15) = hai w (b + 15) := (T 0 0 0 0 0 [] []).ai (by decide) (by decide) (by decide)
  refine ⟨_, rfl, jn_s I T ?_ (fun h => ?_)⟩
  · unfold tX11_trace tTr
    rw [e25, e26, one_i, in_eq (A := 0) (a := 0) (b := nI N) rfl rfl, in_eq (A := 0) (B := 5) (a := 0) (b := 5) rfl rfl]
    by_cases q : vX10_isWithin x2 0 5 = 0
    · rw [if_pos q, if_pos q]
    · rw [if_neg q, if_neg q, le0_w q]
  · rw [hy h]
    obtain ⟨g1, g2, g3, g4⟩ := tTr_0 h
    have Z := c5 (by omega)
    obtain ⟨s, hs, hx⟩ := iw_N (n := N) (by omega) rfl g2
    obtain ⟨j, hj, hx2⟩ := iw_N (n := 5) (by decide) rfl g3
    have hq : j = 0 ∨ s < N := by
      by_cases q : s = N
      · left
        have := g4 (by rw [hx, q])
        rw [hx2, nI_z (by omega)] at this
        exact this
      · right; omega
    unfold vX11_trace_
    rw [e25, e26, one_i, if_neg g1, in_eq (A := 0) (a := 0) (b := nI N) rfl rfl, if_neg g2, in_eq (A := 0) (B := 5) (a := 0) (b := 5) rfl rfl, if_neg g3, r15, hx, hx2, nI_201, m_cl (by omega), m_cl (by omega), m_cl (by omega), zL_at Z hj hs hq]
    by_cases q : nI s = nI N
    · rw [if_pos q]
      have j0 : j = 0 := by
        have := g4 (by rw [hx, q])
        rw [hx2, nI_z (by omega)] at this
        exact this
      rw [if_pos (by rw [j0]; decide)]
    · rw [if_neg q]
def t12 (N : Nat) (v : Int32) : Int32 := if N = 0 then 1 else if v = 0 then 2 else 0
theorem t12_b {N : Nat} {v : Int32} : t12 N v = 0 ∨ t12 N v = 1 ∨ t12 N v = 2 := by
  unfold t12
  by_cases q1 : N = 0
  · rw [if_pos q1]; exact Or.inr (Or.inl rfl)
  rw [if_neg q1]
  by_cases q2 : v = 0
  · rw [if_pos q2]; exact Or.inr (Or.inr rfl)
  rw [if_neg q2]; exact Or.inl rfl
theorem t12_0 {N : Nat} {v : Int32} (h : t12 N v = 0) : ¬ N = 0 ∧ ¬ v = 0 := by
  unfold t12 at h
  by_cases q1 : N = 0
  · rw [if_pos q1] at h; exact absurd h (by decide)
  rw [if_neg q1] at h
  by_cases q2 : v = 0
  · rw [if_pos q2] at h; exact absurd h (by decide)
  exact ⟨q1, q2⟩
def t1 (N : Nat) : Int32 := if N = 0 then 1 else 0
theorem t1_b {N : Nat} : t1 N = 0 ∨ t1 N = 1 := by
  unfold t1
  by_cases q1 : N = 0
  · rw [if_pos q1]; exact Or.inr rfl
  rw [if_neg q1]; exact Or.inl rfl
theorem t1_0 {N : Nat} (h : t1 N = 0) : ¬ N = 0 := fun q => by unfold t1 at h; rw [if_pos q] at h; exact absurd h (by decide)
theorem eB_of {X : Nat → Nat → Int32} {N : Nat} (h : trOK X N) : eB (X 0) (N + 1) := fun j hj => by
  have := h.1 j (by omega)
  exact ⟨this.1, this.2⟩
theorem dSum_c {E F : Nat → Int32} : ∀ k, (∀ j, j < k → E j = F j) → dSum E k = dSum F k
  | 0, _ => rfl
  | k + 1, h => by unfold dSum; rw [dSum_c k (fun j hj => h j (by omega)), h k (by omega)]
theorem fSat_c2 {E F : Nat → Int32} : ∀ k, (∀ j, j < k → E j = F j) → fSat E k = fSat F k
  | 0, _ => rfl
  | k + 1, h => by unfold fSat; rw [fSat_c2 k (fun j hj => h j (by omega)), h k (by omega)]
theorem tMeas_eq {w : mH} {b N : Nat} {x : Int32} : tMea w b x = (if hfi w b 25 = 0 then 1 else if vX11_in x.toInt64 0 7 = 0 then 2 else 0) := rfl
theorem K_measure {G : mG} {a b : Nat} {w : mH} {x1 : Int32} (I : gI a b w) : mCH G mL_measure 10 1 6 [.ref a, .int x1, .ref (b + 22)] w (fun r u => ∃ t : Int32, r = .inl (some (.int t)) ∧ hk u b = (11, 0) ∧ mC G mX11_measure 4 0 0 [.ref b, .int x1] u (fun r' u' => ∃ v : Int32, r' = .inl (some (.int v)) ∧ gP a b u' t (v.toInt64))) := by
  obtain ⟨hb, i2, i3, i4, i5, i6, i7, i8, i9, i10, i11, i12, i13, i14, i15, i16⟩ := id I
  obtain ⟨N, X, c1, c2, c3, c4, c5, c6⟩ := id i13
  refine mCH_mono (fun r u h => ?_) (tL_measure (show mC _ _ _ _ _ _ _ (tpO _ _ _ (t12 N (vX10_isWithin x1 0 7)) _ _ _) from tX10_measure i3 i8.1 c2 c1) i3.1 (t12_b) (fun u hu => by cases hu; exact i5))
  obtain ⟨hr, h0, h1⟩ := h
  refine ⟨_, hr, ?_⟩
  obtain ⟨T, hy⟩ := jn_rd (a := a) h0 h1
  have z := zRef_o (T 0 0 0 0 0 [] []) hb i4
  refine ⟨z.1, ?_⟩
  have r1 : hai u (b + 1) = hai w (b + 1) := (T 0 0 0 0 0 [] []).ai (by decide) (by decide) (by decide)
  refine mC_mono (fun r' u' h' => ?_) (rX11_measure (T := X) (N := N) z (fun hn => ⟨by rw [(T 0 0 0 0 0 [] []).fi (show 26 ∉ ([] : List Nat) by decide)]; exact c3, (by rcases Nat.eq_zero_or_pos N with q | q; exact absurd (by rw [(T 0 0 0 0 0 [] []).fi (show 25 ∉ ([] : List Nat) by decide), c4, if_pos q]) hn; exact q), c1, (by rw [(T 0 0 0 0 0 [] []).ai (show 1 ≤ 15 by decide) (by decide) (show 15 ∉ ([] : List Nat) by decide)]; exact c5 (by rcases Nat.eq_zero_or_pos N with q | q; exact absurd (by rw [(T 0 0 0 0 0 [] []).fi (show 25 ∉ ([] : List Nat) by decide), c4, if_pos q]) hn; exact q))⟩))
  obtain ⟨rfl, X1, ht⟩ := h'
  have e25 : hfi u b 25 = (if N = 0 then 0 else 1) := by rw [(T 0 0 0 0 0 [] []).fi (by decide)]; exact c4
  have e26 : hfi u b 26 = nI N := by rw [(T 0 0 0 0 0 [] []).fi (by decide)]; exact c3
  have r15 : hai u (b + 15) = hai w (b + 15) := (T 0 0 0 0 0 [] []).ai (by decide) (by decide) (by decide)
  have et : tMea u b x1 = t12 N (vX10_isWithin x1 0 7) := by unfold tMea t12; rw [e25, one_i, in_eq (A := 0) (B := 7) (a := 0) (b := 7) rfl rfl]
  refine ⟨_, rfl, jn_fin I T (X1.wide (by decide) (by decide)) (by rw [ht, et]) (fun h => ?_)⟩
  rw [hy h, et, if_pos h, r1]
theorem K_cost {G : mG} {a b : Nat} {w : mH}  (I : gI a b w) : mCH G mL_cost 10 1 6 [.ref a, .ref (b + 22)] w (fun r u => ∃ t : Int32, r = .inl (some (.int t)) ∧ hk u b = (11, 0) ∧ mC G mX11_cost 5 0 0 [.ref b] u (fun r' u' => ∃ v : Int64, r' = .inl (some (.long v)) ∧ gP a b u' t (v))) := by
  obtain ⟨hb, i2, i3, i4, i5, i6, i7, i8, i9, i10, i11, i12, i13, i14, i15, i16⟩ := id I
  obtain ⟨N, X, c1, c2, c3, c4, c5, c6⟩ := id i13
  refine mCH_mono (fun r u h => ?_) (tL_cost (show mC _ _ _ _ _ _ _ (tpO _ _ _ (t1 N) _ _ _) from tX10_cost i3 i8.1 c2 c1) i3.1 (t1_b) (fun u hu => by cases hu; exact i5))
  obtain ⟨hr, h0, h1⟩ := h
  refine ⟨_, hr, ?_⟩
  obtain ⟨T, hy⟩ := jn_rd (a := a) h0 h1
  have z := zRef_o (T 0 0 0 0 0 [] []) hb i4
  refine ⟨z.1, ?_⟩
  have r1 : hai u (b + 1) = hai w (b + 1) := (T 0 0 0 0 0 [] []).ai (by decide) (by decide) (by decide)
  refine mC_mono (fun r' u' h' => ?_) (rX11_cost (T := X) (N := N) z (fun hn => ⟨by rw [(T 0 0 0 0 0 [] []).fi (show 26 ∉ ([] : List Nat) by decide)]; exact c3, (by rcases Nat.eq_zero_or_pos N with q | q; exact absurd (by rw [(T 0 0 0 0 0 [] []).fi (show 25 ∉ ([] : List Nat) by decide), c4, if_pos q]) hn; exact q), c1, (by rw [(T 0 0 0 0 0 [] []).ai (show 1 ≤ 15 by decide) (by decide) (show 15 ∉ ([] : List Nat) by decide)]; exact c5 (by rcases Nat.eq_zero_or_pos N with q | q; exact absurd (by rw [(T 0 0 0 0 0 [] []).fi (show 25 ∉ ([] : List Nat) by decide), c4, if_pos q]) hn; exact q))⟩))
  obtain ⟨rfl, X1, ht⟩ := h'
  have e25 : hfi u b 25 = (if N = 0 then 0 else 1) := by rw [(T 0 0 0 0 0 [] []).fi (by decide)]; exact c4
  have e26 : hfi u b 26 = nI N := by rw [(T 0 0 0 0 0 [] []).fi (by decide)]; exact c3
  have r15 : hai u (b + 15) = hai w (b + 15) := (T 0 0 0 0 0 [] []).ai (by decide) (by decide) (by decide)
  refine ⟨_, rfl, jn_fin I T (X1.wide (by decide) (by decide)) (by rw [ht, e25, one_i]; rfl) (fun h => ?_)⟩
  rw [hy h, e25, one_i, if_neg (t1_0 h), r1]
theorem K_meanSquareBits {G : mG} {a b : Nat} {w : mH}  (I : gI a b w) : mCH G mL_meanSquareBits 10 1 6 [.ref a, .ref (b + 22)] w (fun r u => ∃ t : Int32, r = .inl (some (.int t)) ∧ hk u b = (11, 0) ∧ mC G mX11_meanSquareBits 3 0 0 [.ref b] u (fun r' u' => ∃ v : Int64, r' = .inl (some (.long v)) ∧ gP a b u' t (v))) := by
  obtain ⟨hb, i2, i3, i4, i5, i6, i7, i8, i9, i10, i11, i12, i13, i14, i15, i16⟩ := id I
  obtain ⟨N, X, c1, c2, c3, c4, c5, c6⟩ := id i13
  refine mCH_mono (fun r u h => ?_) (tL_meanSquareBits (show mC _ _ _ _ _ _ _ (tpO _ _ _ (t1 N) _ _ _) from tX10_meanSquareBits i3 c2 c1 (eB_of c6)) i3.1 (t1_b) (fun u hu => by cases hu; exact i5))
  obtain ⟨hr, h0, h1⟩ := h
  refine ⟨_, hr, ?_⟩
  obtain ⟨T, hy⟩ := jn_rd (a := a) h0 h1
  have z := zRef_o (T 0 0 0 0 0 [] []) hb i4
  refine ⟨z.1, ?_⟩
  have r1 : hai u (b + 1) = hai w (b + 1) := (T 0 0 0 0 0 [] []).ai (by decide) (by decide) (by decide)
  refine mC_mono (fun r' u' h' => ?_) (rX11_meanSquareBits (N := N) z (fun hn => ⟨by rw [(T 0 0 0 0 0 [] []).fi (show 26 ∉ ([] : List Nat) by decide)]; exact c3, c1, fun j hj => (by rw [(T 0 0 0 0 0 [] []).ai (show 1 ≤ 15 by decide) (by decide) (show 15 ∉ ([] : List Nat) by decide)]; exact (by rw [(c5 (by rcases Nat.eq_zero_or_pos N with q | q; exact absurd (by rw [(T 0 0 0 0 0 [] []).fi (show 25 ∉ ([] : List Nat) by decide), c4, if_pos q]) hn; exact q)).1 j hj]; exact eB_of c6 j hj))⟩))
  obtain ⟨rfl, rfl⟩ := h'
  have e25 : hfi u b 25 = (if N = 0 then 0 else 1) := by rw [(T 0 0 0 0 0 [] []).fi (by decide)]; exact c4
  have e26 : hfi u b 26 = nI N := by rw [(T 0 0 0 0 0 [] []).fi (by decide)]; exact c3
  have r15 : hai u (b + 15) = hai w (b + 15) := (T 0 0 0 0 0 [] []).ai (by decide) (by decide) (by decide)
  refine ⟨_, rfl, jn_s I T (by rw [e25, one_i]; rfl) (fun h => ?_)⟩
  have n0 := t1_0 h
  rw [hy h, e25, one_i, if_neg n0, r15, dSum_c (N + 1) (fun j hj => (c5 (by omega)).1 j hj)]
theorem K_saturatedBits {G : mG} {a b : Nat} {w : mH}  (I : gI a b w) : mCH G mL_saturatedBits 10 1 6 [.ref a, .ref (b + 22)] w (fun r u => ∃ t : Int32, r = .inl (some (.int t)) ∧ hk u b = (11, 0) ∧ mC G mX11_saturatedBits 3 0 0 [.ref b] u (fun r' u' => ∃ v : Int32, r' = .inl (some (.int v)) ∧ gP a b u' t (v.toInt64))) := by
  obtain ⟨hb, i2, i3, i4, i5, i6, i7, i8, i9, i10, i11, i12, i13, i14, i15, i16⟩ := id I
  obtain ⟨N, X, c1, c2, c3, c4, c5, c6⟩ := id i13
  refine mCH_mono (fun r u h => ?_) (tL_saturatedBits (show mC _ _ _ _ _ _ _ (tpO _ _ _ (t1 N) _ _ _) from tX10_saturatedBits i3 c2 c1 (fun t ht => (c6.2 t ht).2.2.2)) i3.1 (t1_b) (fun u hu => by cases hu; exact i5))
  obtain ⟨hr, h0, h1⟩ := h
  refine ⟨_, hr, ?_⟩
  obtain ⟨T, hy⟩ := jn_rd (a := a) h0 h1
  have z := zRef_o (T 0 0 0 0 0 [] []) hb i4
  refine ⟨z.1, ?_⟩
  have r1 : hai u (b + 1) = hai w (b + 1) := (T 0 0 0 0 0 [] []).ai (by decide) (by decide) (by decide)
  refine mC_mono (fun r' u' h' => ?_) (rX11_saturatedBits (N := N) z (fun hn => ⟨by rw [(T 0 0 0 0 0 [] []).fi (show 26 ∉ ([] : List Nat) by decide)]; exact c3, (by rcases Nat.eq_zero_or_pos N with q | q; exact absurd (by rw [(T 0 0 0 0 0 [] []).fi (show 25 ∉ ([] : List Nat) by decide), c4, if_pos q]) hn; exact q), c1, fun j hj => (by rw [(T 0 0 0 0 0 [] []).ai (show 1 ≤ 15 by decide) (by decide) (show 15 ∉ ([] : List Nat) by decide)]; exact (by rw [(c5 (by rcases Nat.eq_zero_or_pos N with q | q; exact absurd (by rw [(T 0 0 0 0 0 [] []).fi (show 25 ∉ ([] : List Nat) by decide), c4, if_pos q]) hn; exact q)).2.2.2.2.2 j hj]; exact (c6.2 j hj).2.2.2))⟩))
  obtain ⟨rfl, rfl⟩ := h'
  have e25 : hfi u b 25 = (if N = 0 then 0 else 1) := by rw [(T 0 0 0 0 0 [] []).fi (by decide)]; exact c4
  have e26 : hfi u b 26 = nI N := by rw [(T 0 0 0 0 0 [] []).fi (by decide)]; exact c3
  have r15 : hai u (b + 15) = hai w (b + 15) := (T 0 0 0 0 0 [] []).ai (by decide) (by decide) (by decide)
  refine ⟨_, rfl, jn_s I T (by rw [e25, one_i]; rfl) (fun h => ?_)⟩
  have n0 := t1_0 h
  rw [hy h, e25, one_i, if_neg n0, r15, fSat_c2 (E := fun t => hai w (b + 15) (1005 + t)) N (fun j hj => (c5 (by omega)).2.2.2.2.2 j hj)]
