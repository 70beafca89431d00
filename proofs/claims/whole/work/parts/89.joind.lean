theorem oT_drop {a b l1 h1 l2 h2 e : Nat} {F P F' P' : List Nat} {w w' : mH} (T : oT a b l1 h1 l2 h2 e F P w w') (f : ∀ k, k ∉ F' → hfi w' b k = hfi w b k) (p : ∀ j, 1 ≤ j → j < 22 → j ∉ P' → hai w' (b + j) = hai w (b + j)) (q : 19 ∉ P' → hal w' (b + 19) = hal w (b + 19)) : oT a b l1 h1 l2 h2 e F' P' w w' := ⟨T.1, T.2.1, T.2.2.1, f, ⟨p, q⟩, T.2.2.2.2.2⟩
theorem sal_in {b lo hi : Nat} {w : mH} {y : Int64} (h : hi ≤ b) : mIn lo hi w (sal w (b + 22) 0 y) := fun q _ g => (oT_sal (a := 0) (b := b) (l1 := 0) (h1 := 0) (l2 := 0) (h2 := 0) (e := 0) (F := []) (P := []) (w := w) (y := y)).2.2.1 q (by omega) (by omega) (by omega)

theorem K_hold {G : mG} {a b : Nat} {w : mH}  (I : gI a b w) : mCH G mL_hold 10 1 6 [.ref a, .ref (b + 22)] w (fun r u => ∃ t : Int32, r = .inl (some (.int t)) ∧ hk u b = (11, 0) ∧ mC G mX11_hold 1 0 0 [.ref b] u (fun r' u' => ∃ v : Int32, r' = .inl (some (.int v)) ∧ gP a b u' t v.toInt64)) := by
  obtain ⟨hb, i2, i3, i4, i5, i6, i7, i8, i9, i10, i11, i12, i13, i14, i15, i16⟩ := id I
  obtain ⟨N, X, c1, c2, c3, c4, c5, c6⟩ := id i13
  refine mCH_mono (fun r u h => ?_) (tL_hold (show mC _ _ _ _ _ _ _ (tpO _ _ _ (t1 N) _ _ _) from tX10_hold i3 c2 c1) i3.1 t1_b (fun u hu => by rw [show hk u = hk w from hu.1.1.1]; exact i5))
  obtain ⟨hr, h0, h1⟩ := h
  refine ⟨_, hr, ?_⟩
  have T0 : ∀ e F P, oT a b (a + 165) (a + 167) 0 0 e F P w u := by
    by_cases q : t1 N = 0
    · obtain ⟨x, hx, eu⟩ := h0 q
      subst eu
      exact fun _ _ _ => (oT_c (hx.1.f1 (Nat.le_refl _) (Nat.le_refl _)) (by omega) (by omega)).tr oT_sal
    · obtain ⟨x, n, hx, hn, eu⟩ := h1 q
      cases hx; subst eu
      exact fun _ _ _ => oT_snn hn
  have z := zRef_o (T0 0 [] []) hb i4
  refine ⟨z.1, ?_⟩
  have e25 : hfi u b 25 = (if N = 0 then 0 else 1) := by rw [(T0 0 [] []).fi (by decide)]; exact c4
  have r15 : hai u (b + 15) = hai w (b + 15) := (T0 0 [] []).ai (by decide) (by decide) (by decide)
  refine mC_mono (fun r' u' h' => ?_) (rX11_hold (N := N) z (by rw [(T0 0 [] []).fi (show 26 ∉ ([] : List Nat) by decide)]; exact c3) c1)
  obtain ⟨rfl, g0, g1, g2⟩ := h'
  rw [e25, one_i] at g0
  by_cases q : N = 0
  · have qt : ¬ t1 N = 0 := by unfold t1; rw [if_pos q]; decide
    obtain ⟨x, n, hx, hn, eu⟩ := h1 qt
    cases hx; subst eu
    have X := g1 (by rw [e25, if_pos q])
    exact ⟨_, rfl, gI_rd ((oT_snn hn).tr (oT_r (X.wide (by decide) (by decide)) (by decide))) I, g0, fun h => absurd h qt⟩
  · have qt : t1 N = 0 := by unfold t1; rw [if_neg q]
    obtain ⟨x, hx, eu⟩ := h0 qt
    obtain ⟨X, f28, f29, fr⟩ := g2 (by rw [e25, if_neg q]; decide)
    have T : oT a b (a + 165) (a + 167) 0 0 0 [0, 28, 29] [16] w u' := (T0 0 _ _).tr (oT_r X (by decide))
    have S : oT a b 0 0 0 0 0 [0, 28, 29] [16] x u' := by rw [eu] at X; exact oT_sal.tr (oT_r X (by decide))
    have iS := S.inn (lo := a + 165) (hi := a + 167) (by omega) (by omega) (by omega)
    have Z := c5 (by omega)
    refine ⟨_, rfl, ⟨hb, Nat.le_trans i2 T.1, zBen_o T hb i3, zRef_o T hb i4, by rw [(T.2.1 (b + 22) (by omega)).1]; exact i5, cst_o T (by decide) (by decide) i6, cTxt_o T rfl hb (by omega) (by omega) i7, cNow_o T hb (by omega) (by omega) (by decide) i8, cHis_o T hb (by omega) (by omega) (by decide) (by decide) i9, cSav_o T hb (by omega) (by omega) (by decide) (fun k _ => by rw [rwR_o T (by decide)]) i10, cRea_o T hb (by omega) (by omega) (by decide) (by decide) i11, cErr_o T hb (by omega) (by omega) (by decide) i12, cTra_o T hb (by omega) (by omega) (by decide) (by decide) (by decide) i13, ?_, cFnd_o T (by omega) (by omega) (by omega) (by decide) (by decide) (by decide) (by decide) i15, cFnd_o T (by omega) (by omega) (by omega) (by decide) (by decide) (by decide) (by decide) i16⟩, g0, fun _ => ?_⟩
    · refine ⟨N, c1, by rw [iS.hfi (by omega)]; exact hx.2.1, f29, by rw [f28, if_neg q], fun _ t ht => ?_⟩
      rw [iS.hai (by omega), hx.2.2 t ht, fr t ht, r15, Z.1 t (by omega)]
      exact ⟨rfl, c6.1 t ht⟩
    · rw [X.al (by decide), eu, e_hal_sal, up2_at, if_neg (by rw [← eu, e25, if_neg q]; decide)]
theorem apT_b {x : Int32} {n : Nat} : apT x n = 0 ∨ apT x n = 1 ∨ apT x n = 2 := by
  unfold apT
  by_cases q1 : alw x 4 = 0
  · rw [if_pos q1]; exact Or.inr (Or.inl rfl)
  rw [if_neg q1]
  by_cases q2 : n + cnt x 4 ≤ 50
  · rw [if_pos q2]; exact Or.inl rfl
  · rw [if_neg q2]; exact Or.inr (Or.inr rfl)
theorem K_append {G : mG} {a b : Nat} {w : mH} {x1 : Int32} (I : gI a b w) : mCH G mL_append 10 1 6 [.ref a, .int x1, .ref (b + 22)] w (fun r u => ∃ t : Int32, r = .inl (some (.int t)) ∧ hk u b = (11, 0) ∧ mC G mX11_append 2 0 0 [.ref b, .int x1] u (fun r' u' => ∃ v : Int32, r' = .inl (some (.int v)) ∧ gP a b u' t v.toInt64)) := by
  obtain ⟨hb, i2, i3, i4, i5, i6, i7, i8, i9, i10, i11, i12, i13, i14, i15, i16⟩ := id I
  obtain ⟨n, lt, L1, L2⟩ := id i11
  refine mCH_mono (fun r u h => ?_) (tL_append (show mC _ _ _ _ _ _ _ (tpO _ _ _ (apT x1 n) _ _ _) from tX10_append i3 L1) i3.1 apT_b (fun u hu => by rw [show hk u = hk w from hu.1.1.1]; exact i5))
  obtain ⟨hr, h0, h1⟩ := h
  refine ⟨_, hr, ?_⟩
  have T0 : ∀ e F P, oT a b (a + 139) (a + 141) 0 0 e F P w u := by
    by_cases q : apT x1 n = 0
    · obtain ⟨x, hx, eu⟩ := h0 q
      subst eu
      exact fun _ _ _ => (oT_c (hx.1.f1 (Nat.le_refl _) (Nat.le_refl _)) (by omega) (by omega)).tr oT_sal
    · obtain ⟨x, n, hx, hn, eu⟩ := h1 q
      cases hx; subst eu
      exact fun _ _ _ => oT_snn hn
  have z := zRef_o (T0 0 [] []) hb i4
  refine ⟨z.1, ?_⟩
  have Lu : ltR u b lt n := by
    unfold ltR at L2 ⊢
    rw [(T0 0 [] []).fi (by decide), (T0 0 [] []).ai (by decide) (by decide) (by decide)]
    exact L2
  refine mC_mono (fun r' u' h' => ?_) (rX11_append z Lu)
  obtain ⟨X, g0, g1, g2⟩ := h'
  have T : oT a b (a + 139) (a + 141) 0 0 0 [0, 8] [5] w u' := (T0 0 _ _).tr (oT_r X (by decide))
  by_cases q : apT x1 n = 0
  · obtain ⟨rfl, L3⟩ := g1 q
    obtain ⟨x, hx, eu⟩ := h0 q
    have S : oT a b 0 0 0 0 0 [0, 8] [5] x u' := by rw [eu] at X; exact oT_sal.tr (oT_r X (by decide))
    have iS := S.inn (lo := a + 139) (hi := a + 141) (by omega) (by omega) (by omega)
    refine ⟨_, rfl, ⟨hb, Nat.le_trans i2 T.1, zBen_o T hb i3, zRef_o T hb i4, by rw [(T.2.1 (b + 22) (by omega)).1]; exact i5, cst_o T (by decide) (by decide) i6, cTxt_o T rfl hb (by omega) (by omega) i7, cNow_o T hb (by omega) (by omega) (by decide) i8, cHis_o T hb (by omega) (by omega) (by decide) (by decide) i9, cSav_o T hb (by omega) (by omega) (by decide) (fun k _ => by rw [rwR_o T (by decide)]) i10, ⟨n + cnt x1 4, tk x1 4 lt n, rdL_in iS (by omega) hx.2.2, L3⟩, ?_, cTra_o T hb (by omega) (by omega) (by decide) (by decide) (by decide) i13, cHel_o T hb (by omega) (by omega) (by decide) (by decide) (by decide) i14, cFnd_o T (by omega) (by omega) (by omega) (by decide) (by decide) (by decide) (by decide) i15, cFnd_o T (by omega) (by omega) (by omega) (by decide) (by decide) (by decide) (by decide) i16⟩, g0, fun _ => ?_⟩
    · unfold cErr
      rw [iS.hfi (by omega), hx.2.1, T.fi (by decide)]
      exact i12
    · rw [X.al (by decide), eu, e_hal_sal, up2_at]
  · obtain ⟨L3, rfl⟩ := g2 q
    obtain ⟨x, m, hx, hn, eu⟩ := h1 q
    cases hx
    have T : oT a b 0 0 0 0 0 [0, 8] [5] w u' := by rw [eu] at X; exact (oT_snn hn).tr (oT_r X (by decide))
    have iS := T.inn (lo := a + 139) (hi := a + 141) (by omega) (by omega) (by omega)
    exact ⟨_, rfl, ⟨hb, Nat.le_trans i2 T.1, zBen_o T hb i3, zRef_o T hb i4, by rw [(T.2.1 (b + 22) (by omega)).1]; exact i5, cst_o T (by decide) (by decide) i6, cTxt_o T rfl hb (by omega) (by omega) i7, cNow_o T hb (by omega) (by omega) (by decide) i8, cHis_o T hb (by omega) (by omega) (by decide) (by decide) i9, cSav_o T hb (by omega) (by omega) (by decide) (fun k _ => by rw [rwR_o T (by decide)]) i10, ⟨n, lt, rdL_in iS (by omega) L1, L3⟩, cErr_o T hb (by omega) (by omega) (by decide) i12, cTra_o T hb (by omega) (by omega) (by decide) (by decide) (by decide) i13, cHel_o T hb (by omega) (by omega) (by decide) (by decide) (by decide) i14, cFnd_o T (by omega) (by omega) (by omega) (by decide) (by decide) (by decide) (by decide) i15, cFnd_o T (by omega) (by omega) (by omega) (by decide) (by decide) (by decide) (by decide) i16⟩, g0, fun h => absurd h q⟩
theorem ld_b {r : (Nat → Int32) ⊕ Nat} : (if isL r = 0 then (1 : Int32) else 0) = 0 ∨ (if isL r = 0 then (1 : Int32) else 0) = 1 := i10_b
theorem B00_40 {B : Nat → Int32} : B00 B 40 = 0 := by unfold B00 upd; rfl
theorem B00_65 {B : Nat → Int32} : B00 B 65 = 0 := by unfold B00 upd; rfl
theorem K_load {G : mG} {a b : Nat} {w : mH}  (I : gI a b w) : mCH G mL_load 10 1 6 [.ref a, .ref (b + 22)] w (fun r u => ∃ t : Int32, r = .inl (some (.int t)) ∧ hk u b = (11, 0) ∧ mC G mX11_load 6 0 0 [.ref b] u (fun r' u' => ∃ v : Int32, r' = .inl (some (.int v)) ∧ gP a b u' t v.toInt64)) := by
  obtain ⟨hb, i2, i3, i4, i5, i6, i7, i8, i9, i10, i11, i12, i13, i14, i15, i16⟩ := id I
  obtain ⟨c, h5, hc, hH, okR⟩ := id i9
  obtain ⟨n, lt, L1, L2⟩ := id i11
  refine mCH_mono (fun r u h => ?_) (tL_load (show mC _ _ _ _ _ _ _ (tpO _ _ _ (if isL (pTxt lt n 50 0 (B00 (hai w (b + 6)))) = 0 then 1 else 0) _ _ _) from tX10_load i3 hH i8.1 L1 B00_40 B00_65) i3.1 ld_b (fun u hu => by rw [show hk u = hk w from hu.1.1.1]; exact i5))
  obtain ⟨hr, h0, h1⟩ := h
  refine ⟨_, hr, ?_⟩
  have T0 : ∀ e F P, oT a b (a + 1) (a + 18) (a + 35) (a + 148) e F P w u := by
    by_cases q : (if isL (pTxt lt n 50 0 (B00 (hai w (b + 6)))) = 0 then (1 : Int32) else 0) = 0
    · obtain ⟨x, hx, eu⟩ := h0 q
      subst eu
      exact fun _ _ _ => (oT_c hx.1 (by omega) (by omega)).tr oT_sal
    · obtain ⟨x, n, hx, hn, eu⟩ := h1 q
      subst eu
      exact fun _ _ _ => (oT_c (hx.1.f2 (by omega) (by omega)) (by omega) (by omega)).tr (oT_snn hn)
  have z := zRef_o (T0 0 [] []) hb i4
  refine ⟨z.1, ?_⟩
  have e5 : hfi u b 5 = nI c := by rw [(T0 0 [] []).fi (by decide)]; exact h5
  have r6 : hai u (b + 6) = hai w (b + 6) := (T0 0 [] []).ai (by decide) (by decide) (by decide)
  have rr0 : rwR u b 0 = hai w (b + 1) := by rw [rwR_o (T0 0 [] []) (by decide), rwR_0]
  have Lu : ltR u b lt n := by
    unfold ltR at L2 ⊢
    rw [(T0 0 [] []).fi (by decide), (T0 0 [] []).ai (by decide) (by decide) (by decide)]
    exact L2
  refine mC_mono (fun r' u' h' => ?_) (rX11_load z e5 hc Lu)
  rw [r6] at h'
  obtain ⟨rfl, X, g8, gl, gr⟩ := h'
  refine ⟨_, rfl, ?_⟩
  cases hp : pTxt lt n 50 0 (B00 (hai w (b + 6))) with
  | inl x =>
    rw [hp] at h0 h1 gl
    have qt : (if isL (Sum.inl x : (Nat → Int32) ⊕ Nat) = 0 then (1 : Int32) else 0) = 0 := by rw [if_neg (show ¬ isL (Sum.inl x : (Nat → Int32) ⊕ Nat) = 0 from by show ¬ (1 : Int32) = 0; decide)]
    obtain ⟨y, hy, eu⟩ := h0 qt
    obtain ⟨t0, t10, H⟩ := gl x rfl
    rw [rr0] at H
    have S : oT a b 0 0 0 0 0 [0, 5, 8, 9, 10, 12] [1, 6] y u' := by rw [eu] at X; exact oT_sal.tr (oT_r X (by decide))
    have iS := S.inn (lo := a + 139) (hi := a + 141) (by omega) (by omega) (by omega)
    have ok : aOK (fun k => if 40 ≤ k then x k else hai w (b + 1) k) := aOK_trk i8.2 (pTxt_k _ _ _ _ hp (trk_0 B00_40 B00_65)) (fun k hk => by show (if 40 ≤ k then x k else hai w (b + 1) k) = _; rw [if_neg (by omega)]) (fun k hk _ => by show (if 40 ≤ k then x k else hai w (b + 1) k) = _; rw [if_pos hk])
    obtain ⟨g, gy⟩ := ld_join I okR hy.1 hy.2.2.2.1 (hy.2.2.2.2 x rfl) eu X H ok hc ⟨0, lt, ⟨by rw [iS.hfi (by omega)]; exact hy.2.1, by decide, fun i hi => absurd hi (Nat.not_lt_zero _)⟩, ⟨g8, by decide, fun i hi => absurd hi (Nat.not_lt_zero _)⟩⟩ (by unfold cErr; rw [iS.hfi (by omega), hy.2.2.1, t10])
    exact ⟨g, by rw [t0, qt], fun _ => gy⟩
  | inr q =>
    rw [hp] at h0 h1 gr
    have qt : ¬ (if isL (Sum.inr q : (Nat → Int32) ⊕ Nat) = 0 then (1 : Int32) else 0) = 0 := by rw [if_pos (show isL (Sum.inr q : (Nat → Int32) ⊕ Nat) = 0 from rfl)]; decide
    obtain ⟨y, m, hy, hn, eu⟩ := h1 qt
    obtain ⟨t0, t10, t1', t5⟩ := gr q rfl
    have T : oT a b (a + 139) (a + 148) 0 0 0 [0, 8, 9, 10, 12] [6] w u' := by
      have T1 : oT a b (a + 139) (a + 148) 0 0 0 [0, 5, 8, 9, 10, 12] [1, 6] w u' := by
        rw [eu] at X
        exact ((oT_c (hy.1.f1 (Nat.le_refl _) (Nat.le_refl _)) (by omega) (by omega)).tr (oT_snn hn)).tr (oT_r X (by decide))
      refine oT_drop T1 (fun k hk => ?_) (fun j g1 g2 g3 => ?_) (fun _ => T1.al (by decide))
      · by_cases q5 : k = 5
        · rw [q5, t5, (T0 0 [] []).fi (by decide)]
        · exact T1.fi (fun g => by simp at g hk; omega)
      · by_cases q1 : j = 1
        · rw [q1, t1', (T0 0 [] []).ai (by decide) (by decide) (by decide)]
        · exact T1.ai g1 g2 (fun g => by simp at g g3; omega)
    have S : oT a b 0 0 0 0 0 [0, 5, 8, 9, 10, 12] [1, 6] y u' := by rw [eu] at X; exact (oT_snn hn).tr (oT_r X (by decide))
    have iS := S.inn (lo := a + 139) (hi := a + 141) (by omega) (by omega) (by omega)
    refine ⟨⟨hb, Nat.le_trans i2 T.1, zBen_o T hb i3, zRef_o T hb i4, by rw [(T.2.1 (b + 22) (by omega)).1]; exact i5, cst_o T (by decide) (by decide) i6, cTxt_o T rfl hb (by omega) (by omega) i7, cNow_o T hb (by omega) (by omega) (by decide) i8, cHis_o T hb (by omega) (by omega) (by decide) (by decide) i9, cSav_o T hb (by omega) (by omega) (by decide) (fun k _ => by rw [rwR_o T (by decide)]) i10, ⟨0, lt, ⟨by rw [iS.hfi (by omega)]; exact hy.2.1, by decide, fun i hi => absurd hi (Nat.not_lt_zero _)⟩, ⟨g8, by decide, fun i hi => absurd hi (Nat.not_lt_zero _)⟩⟩, ?_, cTra_o T hb (by omega) (by omega) (by decide) (by decide) (by decide) i13, cHel_o T hb (by omega) (by omega) (by decide) (by decide) (by decide) i14, cFnd_o T (by omega) (by omega) (by omega) (by decide) (by decide) (by decide) (by decide) i15, cFnd_o T (by omega) (by omega) (by omega) (by decide) (by decide) (by decide) (by decide) i16⟩, ?_, fun h => absurd h qt⟩
    · unfold cErr
      rw [iS.hfi (by omega), hy.2.2 q rfl, t10]
    · rw [t0, if_pos (show isL (Sum.inr q : (Nat → Int32) ⊕ Nat) = 0 from rfl)]
