theorem rwR_0 {w : mH} {b : Nat} : rwR w b 0 = hai w (b + 1) := by
  funext k
  unfold rwR
  rw [Nat.mul_zero, Nat.zero_add]
theorem hPush_ok {R : Nat → Nat → Int32} {c i : Nat} {A : Nat → Int32} (h : ∀ i, i < c → aOK (R i)) (ok : aOK A) (hc : c ≤ 6) (hi : i < min (c + 1) 6) : aOK (hPush R c A i) := by
  unfold hPush
  by_cases q : c < 6
  · rw [if_pos q]
    by_cases q2 : i < c
    · rw [if_pos q2]; exact h i q2
    · rw [if_neg q2]; exact ok
  · rw [if_neg q]
    by_cases q2 : i < 5
    · rw [if_pos q2]; exact h (i + 1) (by omega)
    · rw [if_neg q2]; exact ok
theorem ch_join {a b c : Nat} {w w1 u u' : mH} {y : Int64} {A' : Nat → Int32} (I : gI a b w) (okR : ∀ i, i < c → aOK (rwR w b (i + 1))) (B1 : mF2 (a + 1) (a + 18) (a + 35) (a + 139) w w1) (B2 : hRep w1 (a + 35) (min (c + 1) 6) (hPush (fun i => rwR w b (i + 1)) c (hai w (b + 1)))) (B3 : sRep w1 (a + 1) A') (eu : u = sal w1 (b + 22) 0 y) (X : xF [0, 5] [1] b u u') (H : hsO u u' b c A') (ok : aOK A') (hc : c ≤ 6) : gI a b u' ∧ hal u' (b + 22) 0 = y := by
  subst eu
  obtain ⟨hb, i2, i3, i4, i5, i6, i7, i8, i9, i10, i11, i12, i13, i14, i15, i16⟩ := I
  have T0 : ∀ e F P, oT a b (a + 1) (a + 18) (a + 35) (a + 139) e F P w (sal w1 (b + 22) 0 y) := fun _ _ _ => (oT_c B1 (by omega) (by omega)).tr oT_sal
  have T : oT a b (a + 1) (a + 18) (a + 35) (a + 139) 0 [0, 5] [1] w u' := (T0 _ _ _).tr (oT_r X (by decide))
  have S : oT a b 0 0 0 0 0 [0, 5] [1] w1 u' := oT_sal.tr (oT_r X (by decide))
  have rr : ∀ r, rwR (sal w1 (b + 22) 0 y) b r = rwR w b r := fun r => rwR_o (T0 0 [] []) (by decide) r
  have r0 : rwR w b 0 = hai w (b + 1) := rwR_0
  obtain ⟨H5, H0, H7, HR⟩ := H
  simp only [rr, r0] at HR
  have n0 : ∀ k, k < 78 → hai u' (b + 1) k = A' k := fun k hk => by rw [← rwR_0 (w := u')]; exact H0 k hk
  refine ⟨⟨hb, Nat.le_trans i2 T.1, zBen_o T hb i3, zRef_o T hb i4, by rw [(T.2.1 (b + 22) (by omega)).1]; exact i5, cst_o T (by decide) (by decide) i6, cTxt_o T rfl hb (by omega) (by omega) i7, ⟨sRep_A n0 (sRep_in (S.inn (lo := a + 1) (hi := a + 18) (by omega) (by omega) (by omega)) (by omega) B3), aOK_c n0 ok⟩, ⟨min (c + 1) 6, H5, by omega, ?_, ?_⟩, cSav_o T hb (by omega) (by omega) (by decide) (fun k hk => by rw [H7 k hk, rr]) i10, cRea_o T hb (by omega) (by omega) (by decide) (by decide) i11, cErr_o T hb (by omega) (by omega) (by decide) i12, cTra_o T hb (by omega) (by omega) (by decide) (by decide) (by decide) i13, cHel_o T hb (by omega) (by omega) (by decide) (by decide) (by decide) i14, cFnd_o T (by omega) (by omega) (by omega) (by decide) (by decide) (by decide) (by decide) i15, cFnd_o T (by omega) (by omega) (by omega) (by decide) (by decide) (by decide) (by decide) i16⟩, by rw [X.al (by decide), e_hal_sal, up2_at]⟩
  · exact hRep_A (fun i hi k hk => HR i hi k hk) (hRep_in (S.inn (lo := a + 35) (hi := a + 139) (by omega) (by omega) (by omega)) (by omega) B2)
  · exact fun i hi => aOK_c (HR i hi) (hPush_ok okR i8.2 hc hi)
theorem ld_join {a b c : Nat} {w w1 u u' : mH} {y : Int64} {A' : Nat → Int32} (I : gI a b w) (okR : ∀ i, i < c → aOK (rwR w b (i + 1))) (B1 : mF2 (a + 1) (a + 18) (a + 35) (a + 148) w w1) (B2 : hRep w1 (a + 35) (min (c + 1) 6) (hPush (fun i => rwR w b (i + 1)) c (hai w (b + 1)))) (B3 : sRep w1 (a + 1) A') (eu : u = sal w1 (b + 22) 0 y) (X : xF [0, 5, 8, 9, 10, 12] [1, 6] b u u') (H : hsO u u' b c A') (ok : aOK A') (hc : c ≤ 6) (cr : cRea a b u') (ce : cErr a b u') : gI a b u' ∧ hal u' (b + 22) 0 = y := by
  subst eu
  obtain ⟨hb, i2, i3, i4, i5, i6, i7, i8, i9, i10, i11, i12, i13, i14, i15, i16⟩ := I
  have T0 : ∀ e F P, oT a b (a + 1) (a + 18) (a + 35) (a + 148) e F P w (sal w1 (b + 22) 0 y) := fun _ _ _ => (oT_c B1 (by omega) (by omega)).tr oT_sal
  have T : oT a b (a + 1) (a + 18) (a + 35) (a + 148) 0 [0, 5, 8, 9, 10, 12] [1, 6] w u' := (T0 _ _ _).tr (oT_r X (by decide))
  have S : oT a b 0 0 0 0 0 [0, 5, 8, 9, 10, 12] [1, 6] w1 u' := oT_sal.tr (oT_r X (by decide))
  have rr : ∀ r, rwR (sal w1 (b + 22) 0 y) b r = rwR w b r := fun r => rwR_o (T0 0 [] []) (by decide) r
  have r0 : rwR w b 0 = hai w (b + 1) := rwR_0
  obtain ⟨H5, H0, H7, HR⟩ := H
  simp only [rr, r0] at HR
  have n0 : ∀ k, k < 78 → hai u' (b + 1) k = A' k := fun k hk => by rw [← rwR_0 (w := u')]; exact H0 k hk
  refine ⟨⟨hb, Nat.le_trans i2 T.1, zBen_o T hb i3, zRef_o T hb i4, by rw [(T.2.1 (b + 22) (by omega)).1]; exact i5, cst_o T (by decide) (by decide) i6, cTxt_o T rfl hb (by omega) (by omega) i7, ⟨sRep_A n0 (sRep_in (S.inn (lo := a + 1) (hi := a + 18) (by omega) (by omega) (by omega)) (by omega) B3), aOK_c n0 ok⟩, ⟨min (c + 1) 6, H5, by omega, ?_, ?_⟩, cSav_o T hb (by omega) (by omega) (by decide) (fun k hk => by rw [H7 k hk, rr]) i10, cr, ce, cTra_o T hb (by omega) (by omega) (by decide) (by decide) (by decide) i13, cHel_o T hb (by omega) (by omega) (by decide) (by decide) (by decide) i14, cFnd_o T (by omega) (by omega) (by omega) (by decide) (by decide) (by decide) (by decide) i15, cFnd_o T (by omega) (by omega) (by omega) (by decide) (by decide) (by decide) (by decide) i16⟩, by rw [X.al (by decide), e_hal_sal, up2_at]⟩
  · exact hRep_A (fun i hi k hk => HR i hi k hk) (hRep_in (S.inn (lo := a + 35) (hi := a + 139) (by omega) (by omega) (by omega)) (by omega) B2)
  · exact fun i hi => aOK_c (HR i hi) (hPush_ok okR i8.2 hc hi)
theorem jn_ch {a b c : Nat} {w u : mH} {t : Int32} {y : Int64} {R : Nat → Nat → Int32} {A A' : Nat → Int32} (hb : a + 194 ≤ b) (h0 : t = 0 → ∃ x, bnO w x a c R A A' ∧ u = sal x (b + 22) 0 y) (h1 : ¬ t = 0 → ∃ (x : mH) (n : Nat), x = w ∧ hN x ≤ n ∧ u = snn x n) : ∀ e F P, oT a b (a + 1) (a + 18) (a + 35) (a + 139) e F P w u := by
  by_cases q : t = 0
  · obtain ⟨x, hx, hu⟩ := h0 q
    subst hu
    exact fun _ _ _ => (oT_c hx.1 (by omega) (by omega)).tr oT_sal
  · obtain ⟨x, n, hx, hn, hu⟩ := h1 q
    subst hx; subst hu
    exact fun _ _ _ => oT_snn hn
theorem ch_bad {a b : Nat} {w u u' : mH} {t : Int32} {y : Int64} (I : gI a b w) (q : ¬ t = 0) (h1 : ∃ (x : mH) (n : Nat), x = w ∧ hN x ≤ n ∧ u = snn x n) (X : xF [0] [] b u u') (ht : hfi u' b 0 = t) : gP a b u' t y := by
  obtain ⟨x, n, hx, hn, hu⟩ := h1
  subst hx; subst hu
  exact ⟨gI_rd ((oT_snn hn).tr (oT_r (X.wide (by decide) (by decide)) (by decide))) I, ht, fun h => absurd h q⟩
theorem ch_ok {a b c : Nat} {w u u' : mH} {t : Int32} {y v : Int64} {A' : Nat → Int32} (I : gI a b w) (okR : ∀ i, i < c → aOK (rwR w b (i + 1))) (h0 : ∃ x, bnO w x a c (fun i => rwR w b (i + 1)) (hai w (b + 1)) A' ∧ u = sal x (b + 22) 0 y) (X : xF [0, 5] [1] b u u' ∧ hsO u u' b c A') (ht : hfi u' b 0 = t) (ok : aOK A') (hc : c ≤ 6) (e : y = v) : gP a b u' t v := by
  obtain ⟨x, hB, eu⟩ := h0
  obtain ⟨g, gy⟩ := ch_join I okR hB.1 hB.2.1 hB.2.2 eu X.1 X.2 ok hc
  exact ⟨g, ht, fun _ => by rw [gy, e]⟩
theorem tSet_b {x1 x2 : Int32} : tSet x1 x2 = 0 ∨ tSet x1 x2 = 1 ∨ tSet x1 x2 = 2 := by
  unfold tSet
  by_cases q1 : vX10_isWithin x1 0 14 = 0
  · rw [if_pos q1]; exact Or.inr (Or.inl rfl)
  rw [if_neg q1]
  by_cases q2 : vX10_isWithin x2 ((mSv 1).getD x1.toNatClampNeg 0) ((mSv 2).getD x1.toNatClampNeg 0) = 0
  · rw [if_pos q2]; exact Or.inr (Or.inr rfl)
  rw [if_neg q2]; exact Or.inl rfl
theorem tSet_0 {x1 x2 : Int32} (h : tSet x1 x2 = 0) : ¬ vX10_isWithin x1 0 14 = 0 ∧ ¬ vX10_isWithin x2 ((mSv 1).getD x1.toNatClampNeg 0) ((mSv 2).getD x1.toNatClampNeg 0) = 0 := by
  unfold tSet at h
  by_cases q1 : vX10_isWithin x1 0 14 = 0
  · rw [if_pos q1] at h; exact absurd h (by decide)
  rw [if_neg q1] at h
  by_cases q2 : vX10_isWithin x2 ((mSv 1).getD x1.toNatClampNeg 0) ((mSv 2).getD x1.toNatClampNeg 0) = 0
  · rw [if_pos q2] at h; exact absurd h (by decide)
  exact ⟨q1, q2⟩
theorem tWei_b {x1 x2 : Int32} : tWei x1 x2 = 0 ∨ tWei x1 x2 = 1 ∨ tWei x1 x2 = 2 := by
  unfold tWei
  by_cases q1 : vX10_isWithin x1 0 4 = 0
  · rw [if_pos q1]; exact Or.inr (Or.inl rfl)
  rw [if_neg q1]
  by_cases q2 : vX10_isWithin x2 0 99 = 0
  · rw [if_pos q2]; exact Or.inr (Or.inr rfl)
  rw [if_neg q2]; exact Or.inl rfl
theorem tWei_0 {x1 x2 : Int32} (h : tWei x1 x2 = 0) : ¬ vX10_isWithin x1 0 4 = 0 ∧ ¬ vX10_isWithin x2 0 99 = 0 := by
  unfold tWei at h
  by_cases q1 : vX10_isWithin x1 0 4 = 0
  · rw [if_pos q1] at h; exact absurd h (by decide)
  rw [if_neg q1] at h
  by_cases q2 : vX10_isWithin x2 0 99 = 0
  · rw [if_pos q2] at h; exact absurd h (by decide)
  exact ⟨q1, q2⟩
theorem tGrd_0 {x1 x2 x3 x4 : Int32} (h : tGrd x1 x2 x3 x4 = 0) : ¬ vX10_isWithin x1 0 2 = 0 ∧ ¬ vX10_isWithin x2 0 999 = 0 ∧ ¬ vX10_isWithin x3 1 200 = 0 ∧ ¬ vX10_isWithin x4 1 6 = 0 ∧ x2 + x3 * (x4 - 1) ≤ 999 := by
  unfold tGrd at h
  by_cases q1 : vX10_isWithin x1 0 2 = 0
  · rw [if_pos q1] at h; exact absurd h (by decide)
  rw [if_neg q1] at h
  by_cases q2 : vX10_isWithin x2 0 999 = 0
  · rw [if_pos q2] at h; exact absurd h (by decide)
  rw [if_neg q2] at h
  by_cases q3 : vX10_isWithin x3 1 200 = 0
  · rw [if_pos q3] at h; exact absurd h (by decide)
  rw [if_neg q3] at h
  by_cases q4 : vX10_isWithin x4 1 6 = 0
  · rw [if_pos q4] at h; exact absurd h (by decide)
  rw [if_neg q4] at h
  by_cases q5 : x2 + x3 * (x4 - 1) ≤ 999
  · exact ⟨q1, q2, q3, q4, q5⟩
  · rw [if_neg q5] at h; exact absurd h (by decide)
theorem tGrd_b {x1 x2 x3 x4 : Int32} : tGrd x1 x2 x3 x4 = 0 ∨ tGrd x1 x2 x3 x4 = 1 ∨ tGrd x1 x2 x3 x4 = 2 := by
  unfold tGrd
  by_cases q1 : vX10_isWithin x1 0 2 = 0
  · rw [if_pos q1]; exact Or.inr (Or.inl rfl)
  rw [if_neg q1]
  by_cases q2 : vX10_isWithin x2 0 999 = 0
  · rw [if_pos q2]; exact Or.inr (Or.inr rfl)
  rw [if_neg q2]
  by_cases q3 : vX10_isWithin x3 1 200 = 0
  · rw [if_pos q3]; exact Or.inr (Or.inr rfl)
  rw [if_neg q3]
  by_cases q4 : vX10_isWithin x4 1 6 = 0
  · rw [if_pos q4]; exact Or.inr (Or.inr rfl)
  rw [if_neg q4]
  by_cases q5 : x2 + x3 * (x4 - 1) ≤ 999
  · rw [if_pos q5]; exact Or.inl rfl
  · rw [if_neg q5]; exact Or.inr (Or.inr rfl)
theorem tSpt_b {A : Nat → Int32} {x1 x2 : Int32} : tSpt A x1 x2 = 0 ∨ tSpt A x1 x2 = 1 ∨ tSpt A x1 x2 = 2 := by
  unfold tSpt
  by_cases q1 : vX10_isWithin x1 (-10000) 10000 = 0
  · rw [if_pos q1]; exact Or.inr (Or.inl rfl)
  rw [if_neg q1]
  by_cases q2 : vX10_isWithin x2 (-1000) 1000 = 0
  · rw [if_pos q2]; exact Or.inr (Or.inl rfl)
  rw [if_neg q2]
  by_cases q3 : fAt A x1 < 0
  · rw [if_pos q3]
    by_cases q4 : A 29 = 5
    · rw [if_pos q4]; exact Or.inr (Or.inr rfl)
    · rw [if_neg q4]; exact Or.inl rfl
  · rw [if_neg q3]; exact Or.inl rfl
theorem tSpt_00 {A : Nat → Int32} {x1 x2 : Int32} (h : tSpt A x1 x2 = 0) : ¬ vX10_isWithin x1 (-10000) 10000 = 0 ∧ ¬ vX10_isWithin x2 (-1000) 1000 = 0 ∧ (fAt A x1 < 0 → ¬ A 29 = 5) := by
  unfold tSpt at h
  by_cases q1 : vX10_isWithin x1 (-10000) 10000 = 0
  · rw [if_pos q1] at h; exact absurd h (by decide)
  rw [if_neg q1] at h
  by_cases q2 : vX10_isWithin x2 (-1000) 1000 = 0
  · rw [if_pos q2] at h; exact absurd h (by decide)
  rw [if_neg q2] at h
  refine ⟨q1, q2, fun q3 q4 => ?_⟩
  rw [if_pos q3, if_pos q4] at h
  exact absurd h (by decide)
theorem i01_b {c : Prop} [Decidable c] : (if c then (0 : Int32) else 1) = 0 ∨ (if c then (0 : Int32) else 1) = 1 := by
  by_cases q : c
  · rw [if_pos q]; exact Or.inl rfl
  · rw [if_neg q]; exact Or.inr rfl
theorem i10_b {c : Prop} [Decidable c] : (if c then (1 : Int32) else 0) = 0 ∨ (if c then (1 : Int32) else 0) = 1 := by
  by_cases q : c
  · rw [if_pos q]; exact Or.inr rfl
  · rw [if_neg q]; exact Or.inl rfl
theorem grd_m {x2 x3 x4 : Int32} (h2 : iw 0 999 x2) (h3 : iw 1 200 x3) (g4 : ¬ vX10_isWithin x4 1 6 = 0) (h : x2 + x3 * (x4 - 1) ≤ 999) : ∃ n : Nat, x4 = nI n ∧ 1 ≤ n ∧ n ≤ 6 ∧ x2.toInt + x3.toInt * ((n : Int) - 1) ≤ 999 := by
  have h4 := iw_of g4
  unfold iw at h2 h3 h4
  rw [show (0 : Int32).toInt = 0 from rfl, show (999 : Int32).toInt = 999 from rfl] at h2
  rw [show (1 : Int32).toInt = 1 from rfl, show (200 : Int32).toInt = 200 from rfl] at h3
  rw [show (1 : Int32).toInt = 1 from rfl, show (6 : Int32).toInt = 6 from rfl] at h4
  obtain ⟨n, hn⟩ : ∃ n : Nat, x4.toInt = n := ⟨x4.toInt.toNat, by omega⟩
  have e4 : x4 = nI n := by apply Int32.toInt_inj.mp; rw [nI_toInt (by omega)]; omega
  refine ⟨n, e4, by omega, by omega, ?_⟩
  have s1 : (x4 - 1).toInt = (n : Int) - 1 := by rw [i_sub (by rw [i_1]; omega) (by rw [i_1]; omega), i_1, hn]
  have hc : n = 1 ∨ n = 2 ∨ n = 3 ∨ n = 4 ∨ n = 5 ∨ n = 6 := by omega
  have hp : 0 ≤ x3.toInt * ((n : Int) - 1) ∧ x3.toInt * ((n : Int) - 1) ≤ 1000 := by
    rcases hc with e | e | e | e | e | e <;> subst e <;> simp <;> omega
  have s2 : (x3 * (x4 - 1)).toInt = x3.toInt * ((n : Int) - 1) := by rw [i_mul (by rw [s1]; omega) (by rw [s1]; omega), s1]
  have s3 : (x2 + x3 * (x4 - 1)).toInt = x2.toInt + x3.toInt * ((n : Int) - 1) := by rw [i_add (by rw [s2]; omega) (by rw [s2]; omega), s2]
  rw [i_le, s3] at h
  exact h
theorem K_set {G : mG} {a b : Nat} {w : mH} {x1 : Int32} {x2 : Int32} (I : gI a b w) : mCH G mL_set 10 1 6 [.ref a, .int x1, .int x2, .ref (b + 22)] w (fun r u => ∃ t : Int32, r = .inl (some (.int t)) ∧ hk u b = (11, 0) ∧ mC G mX11_set 4 0 0 [.ref b, .int x1, .int x2] u (fun r' u' => ∃ v : Int32, r' = .inl (some (.int v)) ∧ gP a b u' t v.toInt64)) := by
  obtain ⟨hb, i2, i3, i4, i5, i6, i7, i8, i9, i10, i11, i12, i13, i14, i15, i16⟩ := id I
  obtain ⟨c, h5, hc, hH, okR⟩ := id i9
  refine mCH_mono (fun r u h => ?_) (tL_set (show mC _ _ _ _ _ _ _ (tpO _ _ _ (tSet x1 x2) _ _ _) from tX10_set i3 hH i8.1) i3.1 (tSet_b) (fun u hu => by rw [show hk u = hk w from hu.1.1.1]; exact i5))
  obtain ⟨hr, h0, h1⟩ := h
  refine ⟨_, hr, ?_⟩
  have T := jn_ch hb h0 h1
  have z := zRef_o (T 0 [] []) hb i4
  refine ⟨z.1, ?_⟩
  have r1 : hai u (b + 1) = hai w (b + 1) := (T 0 [] []).ai (by decide) (by decide) (by decide)
  have e5 : hfi u b 5 = nI c := by rw [(T 0 [] []).fi (by decide)]; exact h5
  refine mC_mono (fun r' u' h' => ?_) (rX11_set z e5 hc (cst_o (T 0 [] []) (by decide) (by decide) i6))
  obtain ⟨rfl, C0, C1, C2⟩ := h'
  rw [r1] at C1
  by_cases q : ((tSet x1 x2) : Int32) = 0
  · refine ⟨_, rfl, ch_ok I okR (h0 q) (C1 q) C0 ?_ hc ?_⟩
    · obtain ⟨g1, g2⟩ := tSet_0 q
      obtain ⟨s, hs, hx⟩ := iw_N (n := 14) (by decide) rfl g1
      have cl : x1.toNatClampNeg = s := by rw [hx]; exact m_cl (by omega)
      rw [cl] at g2 ⊢
      exact aOK_set (by omega) (iw_of g2) i8.2
    · rw [if_pos q, r1]
  · exact ⟨_, rfl, ch_bad I q (h1 q) (C2 q) C0⟩
theorem K_setWeight {G : mG} {a b : Nat} {w : mH} {x1 : Int32} {x2 : Int32} (I : gI a b w) : mCH G mL_setWeight 10 1 6 [.ref a, .int x1, .int x2, .ref (b + 22)] w (fun r u => ∃ t : Int32, r = .inl (some (.int t)) ∧ hk u b = (11, 0) ∧ mC G mX11_setWeight 4 0 0 [.ref b, .int x1, .int x2] u (fun r' u' => ∃ v : Int32, r' = .inl (some (.int v)) ∧ gP a b u' t v.toInt64)) := by
  obtain ⟨hb, i2, i3, i4, i5, i6, i7, i8, i9, i10, i11, i12, i13, i14, i15, i16⟩ := id I
  obtain ⟨c, h5, hc, hH, okR⟩ := id i9
  refine mCH_mono (fun r u h => ?_) (tL_setWeight (show mC _ _ _ _ _ _ _ (tpO _ _ _ (tWei x1 x2) _ _ _) from tX10_setWeight i3 hH i8.1) i3.1 (tWei_b) (fun u hu => by rw [show hk u = hk w from hu.1.1.1]; exact i5))
  obtain ⟨hr, h0, h1⟩ := h
  refine ⟨_, hr, ?_⟩
  have T := jn_ch hb h0 h1
  have z := zRef_o (T 0 [] []) hb i4
  refine ⟨z.1, ?_⟩
  have r1 : hai u (b + 1) = hai w (b + 1) := (T 0 [] []).ai (by decide) (by decide) (by decide)
  have e5 : hfi u b 5 = nI c := by rw [(T 0 [] []).fi (by decide)]; exact h5
  refine mC_mono (fun r' u' h' => ?_) (rX11_setWeight z e5 hc)
  obtain ⟨rfl, C0, C1, C2⟩ := h'
  rw [r1] at C1
  by_cases q : ((tWei x1 x2) : Int32) = 0
  · refine ⟨_, rfl, ch_ok I okR (h0 q) (C1 q) C0 ?_ hc ?_⟩
    · obtain ⟨g1, g2⟩ := tWei_0 q
      obtain ⟨s, hs, hx⟩ := iw_N (n := 4) (by decide) rfl g1
      have cl : x1.toNatClampNeg = s := by rw [hx]; exact m_cl (by omega)
      rw [cl]
      exact aOK_wei (by omega) (iw_of g2) i8.2
    · rw [if_pos q, r1]
  · exact ⟨_, rfl, ch_bad I q (h1 q) (C2 q) C0⟩
theorem K_setGrid {G : mG} {a b : Nat} {w : mH} {x1 : Int32} {x2 : Int32} {x3 : Int32} {x4 : Int32} (I : gI a b w) : mCH G mL_setGrid 10 1 6 [.ref a, .int x1, .int x2, .int x3, .int x4, .ref (b + 22)] w (fun r u => ∃ t : Int32, r = .inl (some (.int t)) ∧ hk u b = (11, 0) ∧ mC G mX11_setGrid 4 0 0 [.ref b, .int x1, .int x2, .int x3, .int x4] u (fun r' u' => ∃ v : Int32, r' = .inl (some (.int v)) ∧ gP a b u' t v.toInt64)) := by
  obtain ⟨hb, i2, i3, i4, i5, i6, i7, i8, i9, i10, i11, i12, i13, i14, i15, i16⟩ := id I
  obtain ⟨c, h5, hc, hH, okR⟩ := id i9
  refine mCH_mono (fun r u h => ?_) (tL_setGrid (show mC _ _ _ _ _ _ _ (tpO _ _ _ (tGrd x1 x2 x3 x4) _ _ _) from tX10_setGrid i3 hH i8.1) i3.1 (tGrd_b) (fun u hu => by rw [show hk u = hk w from hu.1.1.1]; exact i5))
  obtain ⟨hr, h0, h1⟩ := h
  refine ⟨_, hr, ?_⟩
  have T := jn_ch hb h0 h1
  have z := zRef_o (T 0 [] []) hb i4
  refine ⟨z.1, ?_⟩
  have r1 : hai u (b + 1) = hai w (b + 1) := (T 0 [] []).ai (by decide) (by decide) (by decide)
  have e5 : hfi u b 5 = nI c := by rw [(T 0 [] []).fi (by decide)]; exact h5
  refine mC_mono (fun r' u' h' => ?_) (rX11_setGrid z e5 hc)
  obtain ⟨rfl, C0, C1, C2⟩ := h'
  rw [r1] at C1
  by_cases q : ((tGrd x1 x2 x3 x4) : Int32) = 0
  · refine ⟨_, rfl, ch_ok I okR (h0 q) (C1 q) C0 ?_ hc ?_⟩
    · obtain ⟨g1, g2, g3, g4, g5⟩ := tGrd_0 q
      obtain ⟨s, hs, hx⟩ := iw_N (n := 2) (by decide) rfl g1
      have cl : x1.toNatClampNeg = s := by rw [hx]; exact m_cl (by omega)
      rw [cl]
      obtain ⟨n, n1, n2, n3, n4⟩ := grd_m (iw_of g2) (iw_of g3) g4 g5
      exact aOK_grd (by omega) (iw_of g2) (iw_of g3) n1 n2 n3 n4 i8.2
    · rw [if_pos q, r1]
  · exact ⟨_, rfl, ch_bad I q (h1 q) (C2 q) C0⟩
theorem K_setPoint {G : mG} {a b : Nat} {w : mH} {x1 : Int32} {x2 : Int32} (I : gI a b w) : mCH G mL_setPoint 10 1 6 [.ref a, .int x1, .int x2, .ref (b + 22)] w (fun r u => ∃ t : Int32, r = .inl (some (.int t)) ∧ hk u b = (11, 0) ∧ mC G mX11_setPoint 4 0 0 [.ref b, .int x1, .int x2] u (fun r' u' => ∃ v : Int32, r' = .inl (some (.int v)) ∧ gP a b u' t v.toInt64)) := by
  obtain ⟨hb, i2, i3, i4, i5, i6, i7, i8, i9, i10, i11, i12, i13, i14, i15, i16⟩ := id I
  obtain ⟨c, h5, hc, hH, okR⟩ := id i9
  refine mCH_mono (fun r u h => ?_) (tL_setPoint (show mC _ _ _ _ _ _ _ (tpO _ _ _ (tSpt (hai w (b + 1)) x1 x2) _ _ _) from tX10_setPoint i3 hH i8.1) i3.1 (tSpt_b) (fun u hu => by rw [show hk u = hk w from hu.1.1.1]; exact i5))
  obtain ⟨hr, h0, h1⟩ := h
  refine ⟨_, hr, ?_⟩
  have T := jn_ch hb h0 h1
  have z := zRef_o (T 0 [] []) hb i4
  refine ⟨z.1, ?_⟩
  have r1 : hai u (b + 1) = hai w (b + 1) := (T 0 [] []).ai (by decide) (by decide) (by decide)
  have e5 : hfi u b 5 = nI c := by rw [(T 0 [] []).fi (by decide)]; exact h5
  refine mC_mono (fun r' u' h' => ?_) (rX11_setPoint z e5 hc (by rw [r1]; exact i8.2.2.2.2.2.1))
  obtain ⟨rfl, C0, C1, C2⟩ := h'
  rw [r1] at C0 C1 C2
  by_cases q : ((tSpt (hai w (b + 1)) x1 x2) : Int32) = 0
  · refine ⟨_, rfl, ch_ok I okR (h0 q) (C1 q) C0 ?_ hc ?_⟩
    · obtain ⟨g1, g2, g3⟩ := tSpt_00 q
      exact aOK_put (iw_of g1) (iw_of g2) g3 i8.2
    · rw [r1, if_pos q]
  · exact ⟨_, rfl, ch_bad I q (h1 q) (C2 q) C0⟩
theorem K_removePoint {G : mG} {a b : Nat} {w : mH} {x1 : Int32} (I : gI a b w) : mCH G mL_removePoint 10 1 6 [.ref a, .int x1, .ref (b + 22)] w (fun r u => ∃ t : Int32, r = .inl (some (.int t)) ∧ hk u b = (11, 0) ∧ mC G mX11_removePoint 4 0 0 [.ref b, .int x1] u (fun r' u' => ∃ v : Int32, r' = .inl (some (.int v)) ∧ gP a b u' t v.toInt64)) := by
  obtain ⟨hb, i2, i3, i4, i5, i6, i7, i8, i9, i10, i11, i12, i13, i14, i15, i16⟩ := id I
  obtain ⟨c, h5, hc, hH, okR⟩ := id i9
  refine mCH_mono (fun r u h => ?_) (tL_removePoint (show mC _ _ _ _ _ _ _ (tpO _ _ _ (if 0 ≤ fAt (hai w (b + 1)) x1 then 0 else 1) _ _ _) from tX10_removePoint i3 hH i8.1) i3.1 (i01_b) (fun u hu => by rw [show hk u = hk w from hu.1.1.1]; exact i5))
  obtain ⟨hr, h0, h1⟩ := h
  refine ⟨_, hr, ?_⟩
  have T := jn_ch hb h0 h1
  have z := zRef_o (T 0 [] []) hb i4
  refine ⟨z.1, ?_⟩
  have r1 : hai u (b + 1) = hai w (b + 1) := (T 0 [] []).ai (by decide) (by decide) (by decide)
  have e5 : hfi u b 5 = nI c := by rw [(T 0 [] []).fi (by decide)]; exact h5
  refine mC_mono (fun r' u' h' => ?_) (rX11_removePoint z e5 hc (by rw [r1]; exact i8.2.2.2.2.2.1))
  obtain ⟨rfl, C0, C1, C2⟩ := h'
  rw [r1] at C0 C1 C2
  by_cases q : ((if 0 ≤ fAt (hai w (b + 1)) x1 then 0 else 1) : Int32) = 0
  · refine ⟨_, rfl, ch_ok I okR (h0 q) (C1 q) C0 ?_ hc ?_⟩
    · have g : 0 ≤ fAt (hai w (b + 1)) x1 := Classical.byContradiction fun n => by rw [if_neg n] at q; exact absurd q (by decide)
      exact aOK_cut (fAt_ok i8.2.2.2.2.2.1.2 (Int32.not_lt.mpr g)).2 i8.2
    · have g : 0 ≤ fAt (hai w (b + 1)) x1 := Classical.byContradiction fun n => by rw [if_neg n] at q; exact absurd q (by decide)
      rw [r1, if_pos g]
  · exact ⟨_, rfl, ch_bad I q (h1 q) (C2 q) C0⟩
theorem K_restore {G : mG} {a b : Nat} {w : mH}  (I : gI a b w) : mCH G mL_restore 10 1 6 [.ref a, .ref (b + 22)] w (fun r u => ∃ t : Int32, r = .inl (some (.int t)) ∧ hk u b = (11, 0) ∧ mC G mX11_restore 4 0 0 [.ref b] u (fun r' u' => ∃ v : Int32, r' = .inl (some (.int v)) ∧ gP a b u' t v.toInt64)) := by
  obtain ⟨hb, i2, i3, i4, i5, i6, i7, i8, i9, i10, i11, i12, i13, i14, i15, i16⟩ := id I
  obtain ⟨c, h5, hc, hH, okR⟩ := id i9
  have sv : (hfi w a 2 = 0 ↔ hfi w b 6 = 0) ∧ (¬ hfi w a 2 = 0 → sRep w (a + 18) (rwR w b 7) ∧ aOK (rwR w b 7)) := by
    rcases i10 with ⟨s1, s2⟩ | ⟨s1, s2, s3, s4⟩
    · exact ⟨⟨fun _ => s1, fun _ => s2⟩, fun q => absurd s2 q⟩
    · exact ⟨⟨fun q => by rw [s2] at q; exact absurd q (by decide), fun q => by rw [s1] at q; exact absurd q (by decide)⟩, fun _ => ⟨s3, s4⟩⟩
  refine mCH_mono (fun r u h => ?_) (tL_restore (show mC _ _ _ _ _ _ _ (tpO _ _ _ (if hfi w a 2 = 0 then 1 else 0) _ _ _) from tX10_restore (B := rwR w b 7) i3 hH i8.1 (fun q => (sv.2 q).1)) i3.1 (i10_b) (fun u hu => by rw [show hk u = hk w from hu.1.1.1]; exact i5))
  obtain ⟨hr, h0, h1⟩ := h
  refine ⟨_, hr, ?_⟩
  have T := jn_ch hb h0 h1
  have z := zRef_o (T 0 [] []) hb i4
  refine ⟨z.1, ?_⟩
  have r1 : hai u (b + 1) = hai w (b + 1) := (T 0 [] []).ai (by decide) (by decide) (by decide)
  have e5 : hfi u b 5 = nI c := by rw [(T 0 [] []).fi (by decide)]; exact h5
  have e6 : hfi u b 6 = hfi w b 6 := (T 0 [] []).fi (by decide)
  have r7 : rwR u b 7 = rwR w b 7 := rwR_o (T 0 [] []) (by decide) 7
  have et : (if hfi u b 6 = 0 then (1 : Int32) else 0) = (if hfi w a 2 = 0 then 1 else 0) := by
    rw [e6]
    by_cases q : hfi w a 2 = 0
    · rw [if_pos q, if_pos (sv.1.mp q)]
    · rw [if_neg q, if_neg (fun n => q (sv.1.mpr n))]
  refine mC_mono (fun r' u' h' => ?_) (rX11_restore z e5 hc)
  obtain ⟨rfl, C0, C1, C2⟩ := h'
  rw [et] at C0 C1 C2
  rw [r7] at C1
  by_cases q : ((if hfi w a 2 = 0 then 1 else 0) : Int32) = 0
  · refine ⟨_, rfl, ch_ok I okR (h0 q) (C1 q) C0 ?_ hc ?_⟩
    · have g : ¬ hfi w a 2 = 0 := fun n => by rw [if_pos n] at q; exact absurd q (by decide)
      exact (sv.2 g).2
    · have g : ¬ hfi w a 2 = 0 := fun n => by rw [if_pos n] at q; exact absurd q (by decide)
      rw [e6, if_neg (fun n => g (sv.1.mpr n)), r7]
  · exact ⟨_, rfl, ch_bad I q (h1 q) (C2 q) C0⟩
theorem K_apply {G : mG} {a b : Nat} {w : mH} {x1 : Int32} (I : gI a b w) : mCH G mL_apply 10 1 6 [.ref a, .int x1, .ref (b + 22)] w (fun r u => ∃ t : Int32, r = .inl (some (.int t)) ∧ hk u b = (11, 0) ∧ mC G mX11_apply 4 0 0 [.ref b, .int x1] u (fun r' u' => ∃ v : Int32, r' = .inl (some (.int v)) ∧ gP a b u' t v.toInt64)) := by
  obtain ⟨hb, i2, i3, i4, i5, i6, i7, i8, i9, i10, i11, i12, i13, i14, i15, i16⟩ := id I
  obtain ⟨c, h5, hc, hH, okR⟩ := id i9
  have fd : ∃ f : Nat, f ≤ 1 ∧ wix x1 = f ∧ cFnd f (vX10_foundBy x1 (a + 190) (a + 192)) b w := by
    by_cases q : x1 = 0
    · exact ⟨0, by decide, by unfold wix; rw [if_pos q], by rw [fo_0 q]; exact i15⟩
    · exact ⟨1, by decide, by unfold wix; rw [if_neg q], by rw [fo_1 q]; exact i16⟩
  obtain ⟨f, hf, ef, cF⟩ := fd
  refine mCH_mono (fun r u h => ?_) (tL_apply (show mC _ _ _ _ _ _ _ (tpO _ _ _ (if hfi w (vX10_foundBy x1 (a + 190) (a + 192)) 0 = 0 then 1 else 0) _ _ _) from tX10_apply i3 hH i8.1) i3.1 (i10_b) (fun u hu => by rw [show hk u = hk w from hu.1.1.1]; exact i5))
  obtain ⟨hr, h0, h1⟩ := h
  refine ⟨_, hr, ?_⟩
  have T := jn_ch hb h0 h1
  have z := zRef_o (T 0 [] []) hb i4
  refine ⟨z.1, ?_⟩
  have r1 : hai u (b + 1) = hai w (b + 1) := (T 0 [] []).ai (by decide) (by decide) (by decide)
  have e5 : hfi u b 5 = nI c := by rw [(T 0 [] []).fi (by decide)]; exact h5
  have r17 : hai u (b + 17) = hai w (b + 17) := (T 0 [] []).ai (by decide) (by decide) (by decide)
  have r18 : hai u (b + 18) = hai w (b + 18) := (T 0 [] []).ai (by decide) (by decide) (by decide)
  refine mC_mono (fun r' u' h' => ?_) (rX11_apply z e5 hc)
  obtain ⟨rfl, C0, C1, C2⟩ := h'
  rw [r17, ef, ← (cFnd_0 cF).1] at C0 C1 C2
  have C1' : (if hfi w (vX10_foundBy x1 (a + 190) (a + 192)) 0 = 0 then (1 : Int32) else 0) = 0 → xF [0, 5] [1] b u u' ∧ hsO u u' b c (aGain (hai w (b + 1)) (hai w (vX10_foundBy x1 (a + 190) (a + 192) + 1) 0) (hai w (vX10_foundBy x1 (a + 190) (a + 192) + 1) 1) (hai w (vX10_foundBy x1 (a + 190) (a + 192) + 1) 2)) := fun q => by
    have g : ¬ hfi w (vX10_foundBy x1 (a + 190) (a + 192)) 0 = 0 := fun n => by rw [if_pos n] at q; exact absurd q (by decide)
    have F1 := (cFnd_1 cF (by rw [← (cFnd_0 cF).1]; exact g)).1
    have := C1 q
    rw [r1, r18] at this
    rw [(F1 0 (by decide)).1, (F1 1 (by decide)).1, (F1 2 (by decide)).1]
    exact this
  replace C1 := C1'
  by_cases q : ((if hfi w (vX10_foundBy x1 (a + 190) (a + 192)) 0 = 0 then 1 else 0) : Int32) = 0
  · refine ⟨_, rfl, ch_ok I okR (h0 q) (C1 q) C0 ?_ hc ?_⟩
    · have g : ¬ hfi w (vX10_foundBy x1 (a + 190) (a + 192)) 0 = 0 := fun n => by rw [if_pos n] at q; exact absurd q (by decide)
      have F1 := (cFnd_1 cF (by rw [← (cFnd_0 cF).1]; exact g)).1
      rw [(F1 0 (by decide)).1, (F1 1 (by decide)).1, (F1 2 (by decide)).1]
      exact aOK_gain (F1 0 (by decide)).2 (F1 1 (by decide)).2 (F1 2 (by decide)).2 i8.2
    · have g : ¬ hfi w (vX10_foundBy x1 (a + 190) (a + 192)) 0 = 0 := fun n => by rw [if_pos n] at q; exact absurd q (by decide)
      have F1 := (cFnd_1 cF (by rw [← (cFnd_0 cF).1]; exact g)).1
      rw [(F1 0 (by decide)).1, (F1 1 (by decide)).1, (F1 2 (by decide)).1, r17, r18, r1, ef, ← (cFnd_0 cF).1, if_neg g]
      rfl
  · exact ⟨_, rfl, ch_bad I q (h1 q) (C2 q) C0⟩
