theorem cmp_c {E F E' F' : Nat → Int32} : ∀ k, (∀ t, t < k → E t = E' t) → (∀ t, t < k → F t = F' t) → fDif E F k = fDif E' F' k ∧ fLes E F k = fLes E' F' k
  | 0, _, _ => ⟨rfl, rfl⟩
  | k + 1, h1, h2 => by
    obtain ⟨g1, g2⟩ := cmp_c k (fun t ht => h1 t (by omega)) (fun t ht => h2 t (by omega))
    refine ⟨?_, ?_⟩
    · unfold fDif; rw [g1, h1 k (by omega), h2 k (by omega)]
    · unfold fLes; rw [g2, h1 k (by omega), h2 k (by omega)]
theorem fst_c {E F E' F' : Nat → Int32} : ∀ j i, (∀ t, t < i + j → E t = E' t) → (∀ t, t < i + j → F t = F' t) → fFst E F i j = fFst E' F' i j
  | 0, _, _, _ => rfl
  | j + 1, i, h1, h2 => by
    unfold fFst
    rw [fst_c j (i + 1) (fun t ht => h1 t (by omega)) (fun t ht => h2 t (by omega)), h1 i (by omega), h2 i (by omega)]
theorem vCmp_c {E F E' F' : Nat → Int32} {k : Nat} {x : Int32} (h1 : ∀ t, t < k → E t = E' t) (h2 : ∀ t, t < k → F t = F' t) : vCmp E F k x = vCmp E' F' k x := by
  unfold vCmp
  rw [(cmp_c k h1 h2).1, (cmp_c k h1 h2).2, fst_c k 0 (fun t ht => h1 t (by omega)) (fun t ht => h2 t (by omega))]
theorem cmV_eq {E F : Nat → Int32} {k : Nat} {x : Int32} (hk : k ≤ 70000) (hE : ∀ t, t < k → ab (E t) 10000 ∧ ab (F t) 10000) : cmV E F k x = vCmp E F k x := by
  unfold cmV vCmp
  rw [dif_eq, les_eq, fst_eq hk hE]
def t112 (N M : Nat) (v : Int32) : Int32 := if N = 0 then 1 else if M = 0 then 1 else if v = 0 then 2 else 0
theorem t112_b {N M : Nat} {v : Int32} : t112 N M v = 0 ∨ t112 N M v = 1 ∨ t112 N M v = 2 := by
  unfold t112
  by_cases q1 : N = 0
  · rw [if_pos q1]; exact Or.inr (Or.inl rfl)
  rw [if_neg q1]
  by_cases q2 : M = 0
  · rw [if_pos q2]; exact Or.inr (Or.inl rfl)
  rw [if_neg q2]
  by_cases q3 : v = 0
  · rw [if_pos q3]; exact Or.inr (Or.inr rfl)
  rw [if_neg q3]; exact Or.inl rfl
theorem t112_0 {N M : Nat} {v : Int32} (h : t112 N M v = 0) : ¬ N = 0 ∧ ¬ M = 0 ∧ ¬ v = 0 := by
  unfold t112 at h
  by_cases q1 : N = 0
  · rw [if_pos q1] at h; exact absurd h (by decide)
  rw [if_neg q1] at h
  by_cases q2 : M = 0
  · rw [if_pos q2] at h; exact absurd h (by decide)
  rw [if_neg q2] at h
  by_cases q3 : v = 0
  · rw [if_pos q3] at h; exact absurd h (by decide)
  exact ⟨q1, q2, q3⟩
theorem K_reason {G : mG} {a b : Nat} {w : mH} {x1 : Int32} (I : gI a b w) : mCH G mL_reason 10 1 6 [.ref a, .int x1, .ref (b + 22)] w (fun r u => ∃ t : Int32, r = .inl (some (.int t)) ∧ hk u b = (11, 0) ∧ mC G mX11_reason 3 0 0 [.ref b, .int x1] u (fun r' u' => ∃ v : Int32, r' = .inl (some (.int v)) ∧ gP a b u' t (v.toInt64))) := by
  obtain ⟨hb, i2, i3, i4, i5, i6, i7, i8, i9, i10, i11, i12, i13, i14, i15, i16⟩ := id I
  obtain ⟨N, X, c1, c2, c3, c4, c5, c6⟩ := id i13
  refine mCH_mono (fun r u h => ?_) (tL_reason (show mC _ _ _ _ _ _ _ (tpO _ _ _ (t12 N (vX10_isWithin x1 0 (nI N - 1))) _ _ _) from tX10_reason i3 i8.1 c2 c1) i3.1 (t12_b) (fun u hu => by cases hu; exact i5))
  obtain ⟨hr, h0, h1⟩ := h
  refine ⟨_, hr, ?_⟩
  obtain ⟨T, hy⟩ := jn_rd (a := a) h0 h1
  have z := zRef_o (T 0 0 0 0 0 [] []) hb i4
  refine ⟨z.1, ?_⟩
  have r1 : hai u (b + 1) = hai w (b + 1) := (T 0 0 0 0 0 [] []).ai (by decide) (by decide) (by decide)
  refine mC_mono (fun r' u' h' => ?_) (rX11_reason z (fun hn => ⟨N, by rw [(T 0 0 0 0 0 [] []).fi (show 26 ∉ ([] : List Nat) by decide)]; exact c3, (by rcases Nat.eq_zero_or_pos N with q | q; exact absurd (by rw [(T 0 0 0 0 0 [] []).fi (show 25 ∉ ([] : List Nat) by decide), c4, if_pos q]) hn; exact q), c1⟩))
  obtain ⟨rfl, rfl⟩ := h'
  have e25 : hfi u b 25 = (if N = 0 then 0 else 1) := by rw [(T 0 0 0 0 0 [] []).fi (by decide)]; exact c4
  have e26 : hfi u b 26 = nI N := by rw [(T 0 0 0 0 0 [] []).fi (by decide)]; exact c3
  have r15 : hai u (b + 15) = hai w (b + 15) := (T 0 0 0 0 0 [] []).ai (by decide) (by decide) (by decide)
  have et : tRea u b x1 = t12 N (vX10_isWithin x1 0 (nI N - 1)) := by unfold tRea t12; rw [e25, e26, one_i, in_eq (A := 0) (a := 0) (b := nI N - 1) rfl rfl]
  refine ⟨_, rfl, jn_s I T et (fun h => ?_)⟩
  rw [hy h, et, if_pos h, r1, r15]
  obtain ⟨n0, g2⟩ := t12_0 h
  obtain ⟨s, hs, hx⟩ := iw_2 (by omega) (by omega) rfl g2
  have cl : x1.toNatClampNeg = s := by rw [hx]; exact m_cl (by omega)
  have Z := c5 (by omega)
  have F := seB_F i8.2.1
  have z1 : hai w (b + 15) (201 + s) = X 1 s := zL_at (j := 1) Z (by decide) (by omega) (Or.inr hs)
  have z4 : hai w (b + 15) (804 + s) = X 4 s := zL_at (j := 4) Z (by decide) (by omega) (Or.inr hs)
  have zd : (if s = 0 then (0 : Int32) else hai w (b + 15) (201 + s) - hai w (b + 15) (200 + s)) = (if s = 0 then 0 else X 1 s - X 1 (s - 1)) := by
    by_cases q : s = 0
    · rw [if_pos q, if_pos q]
    · rw [if_neg q, if_neg q, z1, show 200 + s = 201 * 1 + (s - 1) by omega, zL_at (j := 1) Z (by decide) (by omega) (Or.inr (by omega))]
  have b1 := (c6.2 s hs).1
  have b4 := (c6.2 s hs).2.2.1
  have bd : ab (if s = 0 then (0 : Int32) else X 1 s - X 1 (s - 1)) 20000 := by
    by_cases q : s = 0
    · rw [if_pos q]; exact ab_0 _
    · rw [if_neg q]
      have b2 := (c6.2 (s - 1) (by omega)).1
      unfold ab at b1 b2 ⊢
      rw [i_sub (by omega) (by omega)]
      omega
  unfold vRea
  rw [cl, zd, z1, z4, rea_eq (R := fun _ => 0) (T := fun _ => 0) F.1 F.2.1 F.2.2.1 b1 b4 bd]
theorem K_compare {G : mG} {a b : Nat} {w : mH} {x1 : Int32} (I : gI a b w) : mCH G mL_compare 10 1 6 [.ref a, .int x1, .ref (b + 22)] w (fun r u => ∃ t : Int32, r = .inl (some (.int t)) ∧ hk u b = (11, 0) ∧ mC G mX11_compare 2 0 0 [.ref b, .int x1] u (fun r' u' => ∃ v : Int32, r' = .inl (some (.int v)) ∧ gP a b u' t (v.toInt64))) := by
  obtain ⟨hb, i2, i3, i4, i5, i6, i7, i8, i9, i10, i11, i12, i13, i14, i15, i16⟩ := id I
  obtain ⟨N, X, c1, c2, c3, c4, c5, c6⟩ := id i13
  obtain ⟨M, d1, d2, d3, d4, d5⟩ := id i14
  refine mCH_mono (fun r u h => ?_) (tL_compare (show mC _ _ _ _ _ _ _ (tpO _ _ _ (t112 N M (vX10_isWithin x1 0 2)) _ _ _) from tX10_compare i3 c2 c1 d2 d1) i3.1 (t112_b) (fun u hu => by cases hu; exact i5))
  obtain ⟨hr, h0, h1⟩ := h
  refine ⟨_, hr, ?_⟩
  obtain ⟨T, hy⟩ := jn_rd (a := a) h0 h1
  have z := zRef_o (T 0 0 0 0 0 [] []) hb i4
  refine ⟨z.1, ?_⟩
  have r1 : hai u (b + 1) = hai w (b + 1) := (T 0 0 0 0 0 [] []).ai (by decide) (by decide) (by decide)
  refine mC_mono (fun r' u' h' => ?_) (rX11_compare (N := N) (M := M) z (by rw [(T 0 0 0 0 0 [] []).fi (show 26 ∉ ([] : List Nat) by decide)]; exact c3) c1 (by rw [(T 0 0 0 0 0 [] []).fi (show 29 ∉ ([] : List Nat) by decide)]; exact d3) d1)
  obtain ⟨rfl, rfl⟩ := h'
  have e25 : hfi u b 25 = (if N = 0 then 0 else 1) := by rw [(T 0 0 0 0 0 [] []).fi (by decide)]; exact c4
  have e26 : hfi u b 26 = nI N := by rw [(T 0 0 0 0 0 [] []).fi (by decide)]; exact c3
  have r15 : hai u (b + 15) = hai w (b + 15) := (T 0 0 0 0 0 [] []).ai (by decide) (by decide) (by decide)
  have e28 : hfi u b 28 = (if M = 0 then 0 else 1) := by rw [(T 0 0 0 0 0 [] []).fi (by decide)]; exact d4
  have r16 : hai u (b + 16) = hai w (b + 16) := (T 0 0 0 0 0 [] []).ai (by decide) (by decide) (by decide)
  have et : tCmp u b x1 = t112 N M (vX10_isWithin x1 0 2) := by unfold tCmp t112; rw [e25, e28, one_i, one_i, in_eq (A := 0) (B := 2) (a := 0) (b := 2) rfl rfl]
  refine ⟨_, rfl, jn_s I T et (fun h => ?_)⟩
  rw [hy h, et, if_pos h, r15, r16]
  obtain ⟨n0, m0, g3⟩ := t112_0 h
  have Z := c5 (by omega)
  have H := d5 (by omega)
  have hE : ∀ t, t < min N M + 1 → hai w (a + 159) t = hai w (b + 15) t := fun t ht => (c2.2.1 t (by omega)).trans (Z.1 t (by omega)).symm
  have hF : ∀ t, t < min N M + 1 → hai w (a + 166) t = hai w (b + 16) t := fun t ht => (H t (by omega)).1
  rw [vCmp_c hE hF, cmV_eq (by omega) (fun t ht => ⟨by rw [Z.1 t (by omega)]; exact c6.1 t (by omega), (H t (by omega)).2⟩)]
theorem cFnd_0 {f o b : Nat} {w : mH} (h : cFnd f o b w) : hfi w o 0 = hai w (b + 17) f ∧ (hai w (b + 17) f = 0 ∨ hai w (b + 17) f = 1) := by
  rcases h with ⟨h1, h2⟩ | ⟨h1, h2, _⟩
  · exact ⟨h2.trans h1.symm, Or.inl h1⟩
  · exact ⟨h2.trans h1.symm, Or.inr h1⟩
theorem cFnd_1 {f o b : Nat} {w : mH} (h : cFnd f o b w) (hn : ¬ hai w (b + 17) f = 0) : (∀ g, g < 3 → hai w (o + 1) g = hai w (b + 18) (3 * f + g) ∧ 0 ≤ (hai w (b + 18) (3 * f + g)).toInt ∧ (hai w (b + 18) (3 * f + g)).toInt ≤ 999) ∧ hfl w o 2 = hal w (b + 19) f ∧ hfi w o 3 = hai w (b + 20) f := by
  rcases h with ⟨h1, _⟩ | ⟨_, _, h3⟩
  · exact absurd h1 hn
  · exact h3
def tFd (v : Int32) (x : Int32) : Int32 := if v = 0 then 1 else if vX10_isWithin x 0 3 = 0 then 2 else 0
theorem tFd_b {v x : Int32} : tFd v x = 0 ∨ tFd v x = 1 ∨ tFd v x = 2 := by
  unfold tFd
  by_cases q1 : v = 0
  · rw [if_pos q1]; exact Or.inr (Or.inl rfl)
  rw [if_neg q1]
  by_cases q2 : vX10_isWithin x 0 3 = 0
  · rw [if_pos q2]; exact Or.inr (Or.inr rfl)
  rw [if_neg q2]; exact Or.inl rfl
theorem tFd_0 {v x : Int32} (h : tFd v x = 0) : ¬ v = 0 ∧ ¬ vX10_isWithin x 0 3 = 0 := by
  unfold tFd at h
  by_cases q1 : v = 0
  · rw [if_pos q1] at h; exact absurd h (by decide)
  rw [if_neg q1] at h
  by_cases q2 : vX10_isWithin x 0 3 = 0
  · rw [if_pos q2] at h; exact absurd h (by decide)
  exact ⟨q1, q2⟩
def tF1 (v : Int32) : Int32 := if v = 0 then 1 else 0
theorem tF1_b {v : Int32} : tF1 v = 0 ∨ tF1 v = 1 := by
  unfold tF1
  by_cases q1 : v = 0
  · rw [if_pos q1]; exact Or.inr rfl
  rw [if_neg q1]; exact Or.inl rfl
theorem tF1_0 {v : Int32} (h : tF1 v = 0) : ¬ v = 0 := fun q => by unfold tF1 at h; rw [if_pos q] at h; exact absurd h (by decide)
theorem fo_0 {x : Int32} {p q : Nat} (h : x = 0) : vX10_foundBy x p q = p := by unfold vX10_foundBy; rw [if_pos h]
theorem fo_1 {x : Int32} {p q : Nat} (h : ¬ x = 0) : vX10_foundBy x p q = q := by unfold vX10_foundBy; rw [if_neg h]
theorem cl_a (k : Nat) (hk : k ≤ 3) {x : Int32} {s : Nat} (hx : x = nI s) (hs : s ≤ 3) : (nI k + x).toNatClampNeg = k + s := by
  rw [hx, nI_ad, m_cl (by omega)]
theorem K_found {G : mG} {a b : Nat} {w : mH} {x1 : Int32} {x2 : Int32} (I : gI a b w) : mCH G mL_found 10 1 6 [.ref a, .int x1, .int x2, .ref (b + 22)] w (fun r u => ∃ t : Int32, r = .inl (some (.int t)) ∧ hk u b = (11, 0) ∧ mC G mX11_found 3 0 0 [.ref b, .int x1, .int x2] u (fun r' u' => ∃ v : Int32, r' = .inl (some (.int v)) ∧ gP a b u' t (v.toInt64))) := by
  obtain ⟨hb, i2, i3, i4, i5, i6, i7, i8, i9, i10, i11, i12, i13, i14, i15, i16⟩ := id I
  refine mCH_mono (fun r u h => ?_) (tL_found (show mC _ _ _ _ _ _ _ (tpO _ _ _ (tFd (hfi w (vX10_foundBy x1 (a + 190) (a + 192)) 0) x2) _ _ _) from tX10_found i3) i3.1 (tFd_b) (fun u hu => by cases hu; exact i5))
  obtain ⟨hr, h0, h1⟩ := h
  refine ⟨_, hr, ?_⟩
  obtain ⟨T, hy⟩ := jn_rd (a := a) h0 h1
  have z := zRef_o (T 0 0 0 0 0 [] []) hb i4
  refine ⟨z.1, ?_⟩
  have r1 : hai u (b + 1) = hai w (b + 1) := (T 0 0 0 0 0 [] []).ai (by decide) (by decide) (by decide)
  refine mC_mono (fun r' u' h' => ?_) (rX11_found z)
  obtain ⟨rfl, rfl⟩ := h'
  have r17 : hai u (b + 17) = hai w (b + 17) := (T 0 0 0 0 0 [] []).ai (by decide) (by decide) (by decide)
  have r18 : hai u (b + 18) = hai w (b + 18) := (T 0 0 0 0 0 [] []).ai (by decide) (by decide) (by decide)
  have r19 : hal u (b + 19) = hal w (b + 19) := (T 0 0 0 0 0 [] []).al (by decide)
  have r20 : hai u (b + 20) = hai w (b + 20) := (T 0 0 0 0 0 [] []).ai (by decide) (by decide) (by decide)
  by_cases q : x1 = 0
  · rw [fo_0 q] at hy
    have F0 := cFnd_0 i15
    have F1 := cFnd_1 i15
    refine ⟨_, rfl, jn_s I T ?_ (fun h => ?_)⟩
    · unfold tX11_found tFd
      rw [fo_0 q, if_pos q, r17, F0.1, in_eq (A := 0) (B := 3) (a := 0) (b := 3) rfl rfl, ite_self]
    · rw [fo_0 q] at h
      rw [hy h]
      obtain ⟨g1, g2⟩ := tFd_0 h
      rw [F0.1] at g1
      obtain ⟨s, hs, hx⟩ := iw_N (n := 3) (by decide) rfl g2
      obtain ⟨f1, f2, f3⟩ := F1 g1
      unfold vX11_found_
      rw [if_pos q, r17, if_neg g1, in_eq (A := 0) (B := 3) (a := 0) (b := 3) rfl rfl, if_neg g2, r18, r20, f3]
      by_cases q3 : x2 = 3
      · rw [if_pos q3, if_pos q3]
      · rw [if_neg q3, if_neg q3]
        have s3 : s < 3 := by
          rcases Nat.lt_or_ge s 3 with h3 | h3
          · exact h3
          · exact absurd (by rw [hx, show s = 3 by omega]; rfl) q3
        have hcl : (0 + x2).toNatClampNeg = 0 + s := cl_a 0 (by decide) hx hs
        rw [hcl, show x2.toNatClampNeg = s by rw [hx]; exact m_cl (by omega), (f1 s s3).1]
  · rw [fo_1 q] at hy
    have F0 := cFnd_0 i16
    have F1 := cFnd_1 i16
    refine ⟨_, rfl, jn_s I T ?_ (fun h => ?_)⟩
    · unfold tX11_found tFd
      rw [fo_1 q, if_neg q, r17, F0.1, in_eq (A := 0) (B := 3) (a := 0) (b := 3) rfl rfl, ite_self]
    · rw [fo_1 q] at h
      rw [hy h]
      obtain ⟨g1, g2⟩ := tFd_0 h
      rw [F0.1] at g1
      obtain ⟨s, hs, hx⟩ := iw_N (n := 3) (by decide) rfl g2
      obtain ⟨f1, f2, f3⟩ := F1 g1
      unfold vX11_found_
      rw [if_neg q, r17, if_neg g1, in_eq (A := 0) (B := 3) (a := 0) (b := 3) rfl rfl, if_neg g2, r18, r20, f3]
      by_cases q3 : x2 = 3
      · rw [if_pos q3, if_pos q3]
      · rw [if_neg q3, if_neg q3]
        have s3 : s < 3 := by
          rcases Nat.lt_or_ge s 3 with h3 | h3
          · exact h3
          · exact absurd (by rw [hx, show s = 3 by omega]; rfl) q3
        have hcl : (3 + x2).toNatClampNeg = 3 + s := cl_a 3 (by decide) hx hs
        rw [hcl, show x2.toNatClampNeg = s by rw [hx]; exact m_cl (by omega), (f1 s s3).1]
theorem K_foundCost {G : mG} {a b : Nat} {w : mH} {x1 : Int32} (I : gI a b w) : mCH G mL_foundCost 10 1 6 [.ref a, .int x1, .ref (b + 22)] w (fun r u => ∃ t : Int32, r = .inl (some (.int t)) ∧ hk u b = (11, 0) ∧ mC G mX11_foundCost 2 0 0 [.ref b, .int x1] u (fun r' u' => ∃ v : Int64, r' = .inl (some (.long v)) ∧ gP a b u' t (v))) := by
  obtain ⟨hb, i2, i3, i4, i5, i6, i7, i8, i9, i10, i11, i12, i13, i14, i15, i16⟩ := id I
  refine mCH_mono (fun r u h => ?_) (tL_foundCost (show mC _ _ _ _ _ _ _ (tpO _ _ _ (tF1 (hfi w (vX10_foundBy x1 (a + 190) (a + 192)) 0)) _ _ _) from tX10_foundCost i3) i3.1 (tF1_b) (fun u hu => by cases hu; exact i5))
  obtain ⟨hr, h0, h1⟩ := h
  refine ⟨_, hr, ?_⟩
  obtain ⟨T, hy⟩ := jn_rd (a := a) h0 h1
  have z := zRef_o (T 0 0 0 0 0 [] []) hb i4
  refine ⟨z.1, ?_⟩
  have r1 : hai u (b + 1) = hai w (b + 1) := (T 0 0 0 0 0 [] []).ai (by decide) (by decide) (by decide)
  refine mC_mono (fun r' u' h' => ?_) (rX11_foundCost z)
  obtain ⟨rfl, rfl⟩ := h'
  have r17 : hai u (b + 17) = hai w (b + 17) := (T 0 0 0 0 0 [] []).ai (by decide) (by decide) (by decide)
  have r18 : hai u (b + 18) = hai w (b + 18) := (T 0 0 0 0 0 [] []).ai (by decide) (by decide) (by decide)
  have r19 : hal u (b + 19) = hal w (b + 19) := (T 0 0 0 0 0 [] []).al (by decide)
  have r20 : hai u (b + 20) = hai w (b + 20) := (T 0 0 0 0 0 [] []).ai (by decide) (by decide) (by decide)
  by_cases q : x1 = 0
  · rw [fo_0 q] at hy
    have F0 := cFnd_0 i15
    have F1 := cFnd_1 i15
    refine ⟨_, rfl, jn_s I T ?_ (fun h => ?_)⟩
    · unfold tX11_foundCost tF1
      rw [fo_0 q, if_pos q, r17, F0.1]
    · rw [fo_0 q] at h
      rw [hy h]
      have g1 := tF1_0 h
      rw [F0.1] at g1
      obtain ⟨f1, f2, f3⟩ := F1 g1
      unfold vX11_foundCost_
      rw [if_pos q, r17, if_neg g1, r19, f2]
  · rw [fo_1 q] at hy
    have F0 := cFnd_0 i16
    have F1 := cFnd_1 i16
    refine ⟨_, rfl, jn_s I T ?_ (fun h => ?_)⟩
    · unfold tX11_foundCost tF1
      rw [fo_1 q, if_neg q, r17, F0.1]
    · rw [fo_1 q] at h
      rw [hy h]
      have g1 := tF1_0 h
      rw [F0.1] at g1
      obtain ⟨f1, f2, f3⟩ := F1 g1
      unfold vX11_foundCost_
      rw [if_neg q, r17, if_neg g1, r19, f2]
theorem K_count {G : mG} {a b : Nat} {w : mH} {x1 : Int32} (I : gI a b w) : mCH G mL_count 10 1 6 [.ref a, .int x1, .ref (b + 22)] w (fun r u => ∃ t : Int32, r = .inl (some (.int t)) ∧ hk u b = (11, 0) ∧ mC G mX11_count 3 0 0 [.ref b, .int x1] u (fun r' u' => ∃ v : Int32, r' = .inl (some (.int v)) ∧ gP a b u' t (v.toInt64))) := by
  obtain ⟨hb, i2, i3, i4, i5, i6, i7, i8, i9, i10, i11, i12, i13, i14, i15, i16⟩ := id I
  obtain ⟨N, X, c1, c2, c3, c4, c5, c6⟩ := id i13
  refine mCH_mono (fun r u h => ?_) (tL_count (tX10_count i3 i8.1) i3.1 (wi01_b) (fun u hu => by cases hu; exact i5))
  obtain ⟨hr, h0, h1⟩ := h
  refine ⟨_, hr, ?_⟩
  obtain ⟨T, hy⟩ := jn_rd (a := a) h0 h1
  have z := zRef_o (T 0 0 0 0 0 [] []) hb i4
  refine ⟨z.1, ?_⟩
  have r1 : hai u (b + 1) = hai w (b + 1) := (T 0 0 0 0 0 [] []).ai (by decide) (by decide) (by decide)
  refine mC_mono (fun r' u' h' => ?_) (rX11_count z (by rw [r1]; exact i8.2.2.2.2.2.2.2.2.1))
  obtain ⟨rfl, rfl⟩ := h'
  have e25 : hfi u b 25 = (if N = 0 then 0 else 1) := by rw [(T 0 0 0 0 0 [] []).fi (by decide)]; exact c4
  have e26 : hfi u b 26 = nI N := by rw [(T 0 0 0 0 0 [] []).fi (by decide)]; exact c3
  have r15 : hai u (b + 15) = hai w (b + 15) := (T 0 0 0 0 0 [] []).ai (by decide) (by decide) (by decide)
  have e8 : hfi u b 8 = hfi w b 8 := (T 0 0 0 0 0 [] []).fi (by decide)
  have e5 : hfi u b 5 = hfi w b 5 := (T 0 0 0 0 0 [] []).fi (by decide)
  obtain ⟨cc, h5, _, hH, _⟩ := i9
  obtain ⟨n, lt, L1, L2⟩ := i11
  refine ⟨_, rfl, jn_s I T (wi_in rfl rfl) (fun h => ?_)⟩
  rw [hy h, in_eq (A := 0) (B := 7) (a := 0) (b := 7) rfl rfl, if_neg (wi01_0 h)]
  unfold vCnt ctV
  rw [e8, e5, e25, e26, r1, one_i, (hRep_c hH).1, h5, L1.1, L2.1, c2.1]
  unfold vX11_triples vX11_gridCount trI aLen
  by_cases q : N = 0
  · rw [if_pos q, q]; rw [r1]; rfl
  · rw [if_neg q]; rw [r1]; rfl
theorem fLowB_c {C C' : Nat → Int64} {al : Int64} {l : Nat} : ∀ b, (∀ k, l ≤ k → k < b → C k = C' k) → fLowB C al l b = fLowB C' al l b
  | 0, _ => rfl
  | b + 1, h => by
    unfold fLowB
    by_cases q : b < l
    · rw [if_pos q, if_pos q]
    · rw [if_neg q, if_neg q, h b (by omega) (by omega), fLowB_c b (fun k h1 h2 => h k h1 (by omega))]
theorem tLo2_b {A : Nat → Int32} {N : Nat} {x1 : Int32} {y2 : Int64} : tLo2 A N x1 y2 = 0 ∨ tLo2 A N x1 y2 = 1 ∨ tLo2 A N x1 y2 = 2 := by
  unfold tLo2
  by_cases q1 : vX10_isWithin x1 0 3 = 0
  · rw [if_pos q1]; exact Or.inr (Or.inl rfl)
  rw [if_neg q1]
  by_cases q2 : fLowB (aLow A N x1.toNatClampNeg) y2 (sLst x1.toNatClampNeg) ((A x1.toNatClampNeg).toNatClampNeg + 1) = (A x1.toNatClampNeg).toNatClampNeg + 1
  · rw [if_pos q2]; exact Or.inr (Or.inr rfl)
  rw [if_neg q2]; exact Or.inl rfl
theorem jn_fr {a b lo hi : Nat} {w u : mH} {t : Int32} {y : Int64} (q : hi ≤ b) (h0 : t = 0 → ∃ x, mFr lo hi w x ∧ u = sal x (b + 22) 0 y) (h1 : ¬ t = 0 → ∃ (x : mH) (n : Nat), mFr lo hi w x ∧ hN x ≤ n ∧ u = snn x n) : (∀ e F P, oT a b lo hi 0 0 e F P w u) ∧ (t = 0 → hal u (b + 22) 0 = y) := by
  by_cases q0 : t = 0
  · obtain ⟨x, hx, hu⟩ := h0 q0
    subst hu
    exact ⟨fun _ _ _ => (oT_c (hx.f1 (Nat.le_refl _) (Nat.le_refl _)) q (by omega)).tr oT_sal, fun _ => by rw [e_hal_sal, up2_at]⟩
  · obtain ⟨x, n, hx, hn, hu⟩ := h1 q0
    subst hu
    exact ⟨fun _ _ _ => (oT_c (hx.f1 (Nat.le_refl _) (Nat.le_refl _)) q (by omega)).tr (oT_snn hn), fun h => absurd h q0⟩
theorem tLow_eq {A : Nat → Int32} {N : Nat} {x1 : Int32} {y2 : Int64} (ok : aOK A) (hN : N ≤ 200) (g : ¬ vX10_isWithin x1 0 3 = 0) : fLowB (rLw A N x1.toNatClampNeg) y2 (sLst x1.toNatClampNeg) ((A x1.toNatClampNeg).toNatClampNeg + 1) = fLowB (aLow A N x1.toNatClampNeg) y2 (sLst x1.toNatClampNeg) ((A x1.toNatClampNeg).toNatClampNeg + 1) := by
  have h4 := lo_4 g
  have ha := lo_a ok h4
  refine fLowB_c _ (fun k h1 h2 => rLw_eq ok hN h4 h1 ?_)
  have e := congrArg Int32.toInt ha.1
  rw [nI_toInt (by omega)] at e
  omega
theorem K_lowest {G : mG} {a b : Nat} {w : mH} {x1 : Int32} {y2 : Int64} (I : gI a b w) : mCH G mL_lowest 10 1 6 [.ref a, .int x1, .long y2, .ref (b + 22)] w (fun r u => ∃ t : Int32, r = .inl (some (.int t)) ∧ hk u b = (11, 0) ∧ mC G mX11_lowest 8 0 0 [.ref b, .int x1, .long y2] u (fun r' u' => ∃ v : Int32, r' = .inl (some (.int v)) ∧ gP a b u' t v.toInt64)) := by
  obtain ⟨hb, i2, i3, i4, i5, i6, i7, i8, i9, i10, i11, i12, i13, i14, i15, i16⟩ := id I
  obtain ⟨N, e13, h1, h200⟩ := aOK_N i8.2
  refine mCH_mono (fun r u h => ?_) (tL_lowest (tX10_lowest i3 i8.1 i8.2 e13 h1 h200) i3.1 tLo2_b (fun u hu => by rw [show hk u = hk w from hu.1.1]; exact i5))
  obtain ⟨hr, h0, h1'⟩ := h
  refine ⟨_, hr, ?_⟩
  obtain ⟨T, hy⟩ := jn_fr (a := a) (b := b) (by omega) h0 h1'
  have z := zRef_o (T 0 [] []) hb i4
  refine ⟨z.1, ?_⟩
  have r1 : hai u (b + 1) = hai w (b + 1) := (T 0 [] []).ai (by decide) (by decide) (by decide)
  have eN : (hai w (b + 1) 13).toNatClampNeg = N := by rw [e13]; exact m_cl (by omega)
  have ok := rOK_of i8.2
  rw [eN] at ok
  refine mC_mono (fun r' u' h' => ?_) (rX11_lowest (N := N) z (cst_o (T 0 [] []) (by decide) (by decide) i6) r1 ok (fun s hs => lo_a i8.2 hs))
  obtain ⟨rfl, X1, eA, ht⟩ := h'
  have et : tLow (hai w (b + 1)) N x1 y2 = tLo2 (hai w (b + 1)) N x1 y2 := by
    unfold tLow tLo2
    rw [in_eq (A := 0) (B := 3) (a := 0) (b := 3) rfl rfl]
    by_cases q : vX10_isWithin x1 0 3 = 0
    · rw [if_pos q, if_pos q]
    · rw [if_neg q, if_neg q, tLow_eq i8.2 h200 q]
  refine ⟨_, rfl, gI_rd2 (l1 := a + 172) (h1 := a + 190) (Or.inl ⟨Nat.le_refl _, Nat.le_refl _⟩) ((T 0 FR PR).tr (oT_r1 (X1.wide (F' := FR) (P' := 1 :: PR) (by decide) (by decide)) (by decide) (by rw [eA, r1]))) I, by rw [ht, et], fun h => ?_⟩
  rw [X1.al (by decide), hy h, et, if_pos h]
  unfold vLow
  rw [tLow_eq i8.2 h200]
  intro q
  unfold tLo2 at h
  rw [if_pos q] at h
  exact absurd h (by decide)
